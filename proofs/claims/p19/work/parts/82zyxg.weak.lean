-- ===== weak contracts =====
theorem wl_278 {X : aX} : ∀ n : Nat, (∀ (h0 h : aH) (x1 : Int32) (x2 : Int32) (x3 : Int32) (x4 : Int32), wS h → hk h0 h → IV h → Pt n X zM278 0 [some (.ref 72), some (.int x1), some (.int x2), some (.int x3), some (.int x4)] [] h (qI (fun _ h' => wS h' ∧ hk h0 h' ∧ IV h'))) := by
  intro n
  induction n with
  | zero => refine ?_ <;> (intros; exact pt_z)
  | succ n ih =>
    have ih278_0 := ih
    refine ?_
    · intro h0 h x1 x2 x3 x4 S G I
      obtain ⟨a1, z1⟩ : ∃ a : Int, x1.toInt = a := ⟨_, rfl⟩
      obtain ⟨a2, z2⟩ : ∃ a : Int, x2.toInt = a := ⟨_, rfl⟩
      obtain ⟨a3, z3⟩ : ∃ a : Int, x3.toInt = a := ⟨_, rfl⟩
      obtain ⟨a4, z4⟩ : ∃ a : Int, x4.toInt = a := ⟨_, rfl⟩
      refine pt_1 (fun n d => r_aloadn gx278_0 rfl) ?_
      refine pt_d (pt_1 (fun n d => r_iloadn gx278_1 rfl) ?_)
      refine pt_d (pt_virt (as := [.int x1]) (r := []) gx278_2 rfl (show zmt[202]? = some zM202 from rfl) rfl rfl rfl rfl (c_202 S z1) (kqP (fun v1001 h1001 => ?_)))
      show Pt _ _ _ 5 _ [.int v1001] _ _
      refine pt_d (pt_ifB_eq gx278_5 h1001 (fun e1002 => ?_) (fun e1002 => ?_))
      · skip
        refine pt_d (pt_ldc_w (c := (-2000000000)) gx278_33 rfl (fun v1003 h1003 => ?_))
        exact pt_d (pt_iret gx278_36 ⟨_, rfl, S, G, I⟩)
      · skip
        refine pt_d (pt_1 (fun n d => r_iloadn gx278_8 rfl) ?_)
        refine pt_d (pt_stat (as := [.int x2]) (r := []) gx278_9 rfl (show zmt[198]? = some zM198 from rfl) rfl rfl rfl rfl (c_198 S z2) (kqP (fun v1004 h1004 => ?_)))
        show Pt _ _ _ 12 _ [.int v1004] _ _
        refine pt_d (pt_ifB_eq gx278_12 h1004 (fun e1005 => ?_) (fun e1005 => ?_))
        · skip
          refine pt_d (pt_ldc_w (c := (-2000000000)) gx278_33 rfl (fun v1006 h1006 => ?_))
          exact pt_d (pt_iret gx278_36 ⟨_, rfl, S, G, I⟩)
        · skip
          refine pt_d (pt_1 (fun n d => r_iloadn gx278_15 rfl) ?_)
          refine pt_d (pt_stat (as := [.int x3]) (r := []) gx278_16 rfl (show zmt[197]? = some zM197 from rfl) rfl rfl rfl rfl (c_197 S z3) (kqP (fun v1007 h1007 => ?_)))
          show Pt _ _ _ 19 _ [.int v1007] _ _
          refine pt_d (pt_ifB_eq gx278_19 h1007 (fun e1008 => ?_) (fun e1008 => ?_))
          · skip
            refine pt_d (pt_ldc_w (c := (-2000000000)) gx278_33 rfl (fun v1009 h1009 => ?_))
            exact pt_d (pt_iret gx278_36 ⟨_, rfl, S, G, I⟩)
          · skip
            refine pt_d (pt_1 (fun n d => r_iload gx278_22 rfl) ?_)
            refine pt_d (pt_iconst gx278_24 (fun v1010 h1010 => ?_))
            refine pt_d (pt_bipush gx278_25 (fun v1011 h1011 => ?_))
            refine pt_d (pt_stat (as := [.int x4, .int v1010, .int v1011]) (r := []) gx278_27 rfl (show zmt[196]? = some zM196 from rfl) rfl rfl rfl rfl (c_196 S z4 h1010 h1011) (kqP (fun v1012 h1012 => ?_)))
            show Pt _ _ _ 30 _ [.int v1012] _ _
            refine pt_d (pt_ifB_ne gx278_30 h1012 (fun e1013 => ?_) (fun e1013 => ?_))
            · skip
              refine pt_d (pt_1 (fun n d => r_aloadn gx278_37 rfl) ?_)
              refine pt_d (pt_1 (fun n d => r_iloadn gx278_38 rfl) ?_)
              refine pt_d (pt_1 (fun n d => r_iloadn gx278_39 rfl) ?_)
              refine pt_d (pt_1 (fun n d => r_iloadn gx278_40 rfl) ?_)
              refine pt_d (pt_iconst gx278_41 (fun v1014 h1014 => ?_))
              refine pt_d (pt_virt (as := [.int x1, .int x2, .int x3, .int v1014]) (r := []) gx278_42 rfl (show zmt[277]? = some zM277 from rfl) rfl rfl rfl rfl (wk_277 S z1 z2 z3 h1014 I) (kqI (fun v1015 y1015 h_1015 h1015 P1015 => ?_)))
              have S1015 := P1015.1
              have G1015 := hk_t G P1015.2.1
              have I1015 := P1015.2.2
              show Pt _ _ _ 45 _ [.int v1015] _ _
              refine pt_d (pt_1 (fun n d => r_pop gx278_45 rfl) ?_)
              refine pt_d (pt_1 (fun n d => r_iload gx278_46 rfl) ?_)
              refine pt_d (pt_bipush gx278_48 (fun v1016 h1016 => ?_))
              refine pt_d (pt_icmp_ne gx278_50 z4 h1016 (fun e1017 => ?_) (fun e1017 => ?_))
              · skip
                refine pt_d (pt_1 (fun n d => r_aloadn gx278_60 rfl) ?_)
                refine pt_d (pt_getR gx278_61 S1015 tr_72_74 ?_)
                refine pt_d (pt_1 (fun n d => r_iload gx278_64 rfl) ?_)
                refine pt_d (pt_iald (N' := 6) gx278_66 S1015 tl_128 z4 (fun v1019 p1019 q1019 h1019 => ?_))
                exact pt_d (pt_iret gx278_67 ⟨_, rfl, S1015, G1015, I1015⟩)
              · skip
                refine pt_d (pt_1 (fun n d => r_aloadn gx278_53 rfl) ?_)
                refine pt_d (pt_getI (B := 75) gx278_54 S1015 (fun v1020 h1020 => ?_))
                refine pt_d (pt_1 (fun n d => r_goto gx278_57) ?_)
                exact pt_d (pt_iret gx278_67 ⟨_, rfl, S1015, G1015, I1015⟩)
            · skip
              refine pt_d (pt_ldc_w (c := (-2000000000)) gx278_33 rfl (fun v1021 h1021 => ?_))
              exact pt_d (pt_iret gx278_36 ⟨_, rfl, S, G, I⟩)
theorem wk_278 {n : Nat} {X : aX} {h : aH} {x1 : Int32} {x2 : Int32} {x3 : Int32} {x4 : Int32} {a1 : Int} {a2 : Int} {a3 : Int} {a4 : Int} (S : wS h) (z1 : x1.toInt = a1) (z2 : x2.toInt = a2) (z3 : x3.toInt = a3) (z4 : x4.toInt = a4) (I : IV h) : Pt n X zM278 0 [some (.ref 72), some (.int x1), some (.int x2), some (.int x3), some (.int x4)] [] h (qI (fun _ h' => wS h' ∧ hk h h' ∧ IV h')) := (wl_278 n) h h x1 x2 x3 x4 S (hk_r h) I
theorem wl_279 {X : aX} : ∀ n : Nat, (∀ (h0 h : aH) (x1 : Int32) (x2 : Int32), wS h → hk h0 h → IV h → Pt n X zM279 0 [some (.ref 72), some (.int x1), some (.int x2)] [] h (qI (fun _ h' => wS h' ∧ hk h0 h' ∧ IV h'))) := by
  intro n
  induction n with
  | zero => refine ?_ <;> (intros; exact pt_z)
  | succ n ih =>
    have ih279_0 := ih
    refine ?_
    · intro h0 h x1 x2 S G I
      obtain ⟨a1, z1⟩ : ∃ a : Int, x1.toInt = a := ⟨_, rfl⟩
      obtain ⟨a2, z2⟩ : ∃ a : Int, x2.toInt = a := ⟨_, rfl⟩
      refine pt_1 (fun n d => r_aloadn gx279_0 rfl) ?_
      refine pt_d (pt_1 (fun n d => r_iloadn gx279_1 rfl) ?_)
      refine pt_d (pt_virt (as := [.int x1]) (r := []) gx279_2 rfl (show zmt[202]? = some zM202 from rfl) rfl rfl rfl rfl (c_202 S z1) (kqP (fun v1001 h1001 => ?_)))
      show Pt _ _ _ 5 _ [.int v1001] _ _
      refine pt_d (pt_ifB_eq gx279_5 h1001 (fun e1002 => ?_) (fun e1002 => ?_))
      · skip
        refine pt_d (pt_iconst gx279_24 (fun v1003 h1003 => ?_))
        exact pt_d (pt_iret gx279_25 ⟨_, rfl, S, G, I⟩)
      · skip
        refine pt_d (pt_1 (fun n d => r_iloadn gx279_8 rfl) ?_)
        refine pt_d (pt_iconst gx279_9 (fun v1004 h1004 => ?_))
        refine pt_d (pt_1 (fun n d => r_aloadn gx279_10 rfl) ?_)
        refine pt_d (pt_getI (B := 1) gx279_11 S (fun v1005 h1005 => ?_))
        refine pt_d (pt_sipush gx279_14 (fun v1006 h1006 => ?_))
        refine pt_d (pt_idiv gx279_17 h1005 h1006 (fun v1007 h1007 => ?_))
        refine pt_d (pt_stat (as := [.int x2, .int v1004, .int v1007]) (r := []) gx279_18 rfl (show zmt[196]? = some zM196 from rfl) rfl rfl rfl rfl (c_196 S z2 h1004 h1007) (kqP (fun v1008 h1008 => ?_)))
        show Pt _ _ _ 21 _ [.int v1008] _ _
        refine pt_d (pt_ifB_ne gx279_21 h1008 (fun e1009 => ?_) (fun e1009 => ?_))
        · skip
          refine pt_d (pt_1 (fun n d => r_aloadn gx279_26 rfl) ?_)
          refine pt_d (pt_getR gx279_27 S tr_72_76 ?_)
          refine pt_d (pt_bipush gx279_30 (fun v1011 h1011 => ?_))
          refine pt_d (pt_1 (fun n d => r_iloadn gx279_32 rfl) ?_)
          refine pt_d (pt_imul gx279_33 h1011 z1 (fun v1012 h1012 => ?_))
          refine pt_d (pt_1 (fun n d => r_iloadn gx279_34 rfl) ?_)
          refine pt_d (pt_iadd gx279_35 h1012 z2 (fun v1013 h1013 => ?_))
          refine pt_d (pt_1 (fun n d => r_aloadn gx279_36 rfl) ?_)
          refine pt_d (pt_1 (fun n d => r_iloadn gx279_37 rfl) ?_)
          refine pt_d (pt_1 (fun n d => r_iloadn gx279_38 rfl) ?_)
          refine pt_d (pt_1 (fun n d => r_aloadn gx279_39 rfl) ?_)
          refine pt_d (pt_getI (B := 1) gx279_40 S (fun v1014 h1014 => ?_))
          refine pt_d (pt_iconst gx279_43 (fun v1015 h1015 => ?_))
          refine pt_d (pt_virt (as := [.int x1, .int x2, .int v1014, .int v1015]) (r := [.int v1013, .ref 129]) gx279_44 rfl (show zmt[277]? = some zM277 from rfl) rfl rfl rfl rfl (wk_277 S z1 z2 h1014 h1015 I) (kqI (fun v1016 y1016 h_1016 h1016 P1016 => ?_)))
          have S1016 := P1016.1
          have G1016 := hk_t G P1016.2.1
          have I1016 := P1016.2.2
          show Pt _ _ _ 47 _ [.int v1016, .int v1013, .ref 129] _ _
          refine pt_d (pt_iasth (N' := 1500) gx279_47 S1016 tl_129 h1013 h1016 (fun h_1017 S1017 p1017 q1017 e1017 K1017 => ?_))
          have G1017 := hk_t G1016 K1017
          have I1017 := IV_ua I1016 K1017 e1017 (by decide)
          refine pt_d (pt_1 (fun n d => r_aloadn gx279_48 rfl) ?_)
          refine pt_d (pt_getR gx279_49 S1017 tr_72_76 ?_)
          refine pt_d (pt_bipush gx279_52 (fun v1019 h1019 => ?_))
          refine pt_d (pt_1 (fun n d => r_iloadn gx279_54 rfl) ?_)
          refine pt_d (pt_imul gx279_55 h1019 z1 (fun v1020 h1020 => ?_))
          refine pt_d (pt_1 (fun n d => r_iloadn gx279_56 rfl) ?_)
          refine pt_d (pt_iadd gx279_57 h1020 z2 (fun v1021 h1021 => ?_))
          refine pt_d (pt_iald (N' := 1500) gx279_58 S1017 tl_129 h1021 (fun v1022 p1022 q1022 h1022 => ?_))
          have h1022 : v1022.toInt = y1016 := by rw [h1022, e1017, up_s]
          exact pt_d (pt_iret gx279_59 ⟨_, rfl, S1017, G1017, I1017⟩)
        · skip
          refine pt_d (pt_iconst gx279_24 (fun v1023 h1023 => ?_))
          exact pt_d (pt_iret gx279_25 ⟨_, rfl, S, G, I⟩)
theorem wk_279 {n : Nat} {X : aX} {h : aH} {x1 : Int32} {x2 : Int32} {a1 : Int} {a2 : Int} (S : wS h) (z1 : x1.toInt = a1) (z2 : x2.toInt = a2) (I : IV h) : Pt n X zM279 0 [some (.ref 72), some (.int x1), some (.int x2)] [] h (qI (fun _ h' => wS h' ∧ hk h h' ∧ IV h')) := (wl_279 n) h h x1 x2 S (hk_r h) I
theorem wl_280 {X : aX} : ∀ n : Nat, (∀ (h0 h : aH) (x1 : Int32), wS h → hk h0 h → IV h → Pt n X zM280 0 [some (.ref 72), some (.int x1), none, none, none] [] h (qI (fun _ h' => wS h' ∧ hk h0 h' ∧ IV h'))) ∧
    (∀ (h0 h : aH) (x1 : Int32) (x2 : Int64) (x4 : Int32), wS h → hk h0 h → IV h → Pt n X zM280 17 [some (.ref 72), some (.int x1), some (.long x2), none, some (.int x4)] [] h (qI (fun _ h' => wS h' ∧ hk h0 h' ∧ IV h'))) := by
  intro n
  induction n with
  | zero => refine ⟨?_, ?_⟩ <;> (intros; exact pt_z)
  | succ n ih =>
    obtain ⟨ih280_0, ih280_17⟩ := ih
    refine ⟨?_, ?_⟩
    · intro h0 h x1 S G I
      obtain ⟨a1, z1⟩ : ∃ a : Int, x1.toInt = a := ⟨_, rfl⟩
      refine pt_1 (fun n d => r_aloadn gx280_0 rfl) ?_
      refine pt_d (pt_1 (fun n d => r_iloadn gx280_1 rfl) ?_)
      refine pt_d (pt_virt (as := [.int x1]) (r := []) gx280_2 rfl (show zmt[202]? = some zM202 from rfl) rfl rfl rfl rfl (c_202 S z1) (kqP (fun v1001 h1001 => ?_)))
      show Pt _ _ _ 5 _ [.int v1001] _ _
      refine pt_d (pt_ifB_ne gx280_5 h1001 (fun e1002 => ?_) (fun e1002 => ?_))
      · skip
        refine pt_d (pt_lconst (c := 0) gx280_12 rfl (fun v1003 h1003 => ?_))
        refine pt_d (pt_1 (fun n d => r_lstoren (L' := [some (.ref 72), some (.int x1), some (.long v1003), none, none]) gx280_13 rfl rfl) ?_)
        refine pt_d (pt_iconst gx280_14 (fun v1004 h1004 => ?_))
        refine pt_d (pt_1 (fun n d => r_istore (L' := [some (.ref 72), some (.int x1), some (.long v1003), none, some (.int v1004)]) gx280_15 rfl rfl) ?_)
        exact ih280_17 h0 h x1 v1003 v1004 S G I
      · skip
        refine pt_d (pt_ldc_w (c := (-2000000000)) gx280_8 rfl (fun v1005 h1005 => ?_))
        exact pt_d (pt_iret gx280_11 ⟨_, rfl, S, G, I⟩)
    · intro h0 h x1 x2 x4 S G I
      obtain ⟨a1, z1⟩ : ∃ a : Int, x1.toInt = a := ⟨_, rfl⟩
      obtain ⟨a2, z2⟩ : ∃ a : Int, x2.toInt = a := ⟨_, rfl⟩
      obtain ⟨a4, z4⟩ : ∃ a : Int, x4.toInt = a := ⟨_, rfl⟩
      refine pt_1 (fun n d => r_iload gx280_17 rfl) ?_
      refine pt_d (pt_1 (fun n d => r_aloadn gx280_19 rfl) ?_)
      refine pt_d (pt_getI (B := 1) gx280_20 S (fun v1001 h1001 => ?_))
      refine pt_d (pt_sipush gx280_23 (fun v1002 h1002 => ?_))
      refine pt_d (pt_idiv gx280_26 h1001 h1002 (fun v1003 h1003 => ?_))
      refine pt_d (pt_icmp_ge gx280_27 z4 h1003 (fun e1004 => ?_) (fun e1004 => ?_))
      · skip
        refine pt_d (pt_1 (fun n d => r_lloadn gx280_66 rfl) ?_)
        refine pt_d (pt_ldc2_w (c := (-1999999999)) gx280_67 rfl (fun v1005 h1005 => ?_))
        refine pt_d (pt_lcmp_ge gx280_70 gx280_71 z2 h1005 (fun e1006 => ?_) (fun e1006 => ?_))
        · skip
          refine pt_d (pt_1 (fun n d => r_lloadn gx280_80 rfl) ?_)
          refine pt_d (pt_ldc2_w (c := 2000000000) gx280_81 rfl (fun v1007 h1007 => ?_))
          refine pt_d (pt_lcmp_le gx280_84 gx280_85 z2 h1007 (fun e1008 => ?_) (fun e1008 => ?_))
          · skip
            refine pt_d (pt_1 (fun n d => r_lloadn gx280_94 rfl) ?_)
            refine pt_d (pt_l2i gx280_95 z2 (fun v1009 h1009 => ?_))
            exact pt_d (pt_iret gx280_96 ⟨_, rfl, S, G, I⟩)
          · skip
            refine pt_d (pt_ldc_w (c := 2000000000) gx280_88 rfl (fun v1010 h1010 => ?_))
            refine pt_d (pt_1 (fun n d => r_goto gx280_91) ?_)
            exact pt_d (pt_iret gx280_96 ⟨_, rfl, S, G, I⟩)
        · skip
          refine pt_d (pt_ldc_w (c := (-1999999999)) gx280_74 rfl (fun v1011 h1011 => ?_))
          refine pt_d (pt_1 (fun n d => r_goto gx280_77) ?_)
          exact pt_d (pt_iret gx280_96 ⟨_, rfl, S, G, I⟩)
      · skip
        refine pt_d (pt_1 (fun n d => r_lloadn gx280_30 rfl) ?_)
        refine pt_d (pt_1 (fun n d => r_aloadn gx280_31 rfl) ?_)
        refine pt_d (pt_1 (fun n d => r_iloadn gx280_32 rfl) ?_)
        refine pt_d (pt_1 (fun n d => r_iload gx280_33 rfl) ?_)
        refine pt_d (pt_1 (fun n d => r_aloadn gx280_35 rfl) ?_)
        refine pt_d (pt_getI (B := 1) gx280_36 S (fun v1012 h1012 => ?_))
        refine pt_d (pt_iconst gx280_39 (fun v1013 h1013 => ?_))
        refine pt_d (pt_virt (as := [.int x1, .int x4, .int v1012, .int v1013]) (r := [.long x2]) gx280_40 rfl (show zmt[277]? = some zM277 from rfl) rfl rfl rfl rfl (wk_277 S z1 z4 h1012 h1013 I) (kqI (fun v1014 y1014 h_1014 h1014 P1014 => ?_)))
        have S1014 := P1014.1
        have G1014 := hk_t G P1014.2.1
        have I1014 := P1014.2.2
        show Pt _ _ _ 43 _ [.int v1014, .long x2] _ _
        refine pt_d (pt_i2l gx280_43 h1014 (fun v1015 h1015 => ?_))
        refine pt_d (pt_1 (fun n d => r_aloadn gx280_44 rfl) ?_)
        refine pt_d (pt_getR gx280_45 S1014 tr_72_76 ?_)
        refine pt_d (pt_bipush gx280_48 (fun v1017 h1017 => ?_))
        refine pt_d (pt_1 (fun n d => r_iloadn gx280_50 rfl) ?_)
        refine pt_d (pt_imul gx280_51 h1017 z1 (fun v1018 h1018 => ?_))
        refine pt_d (pt_1 (fun n d => r_iload gx280_52 rfl) ?_)
        refine pt_d (pt_iadd gx280_54 h1018 z4 (fun v1019 h1019 => ?_))
        refine pt_d (pt_iald (N' := 1500) gx280_55 S1014 tl_129 h1019 (fun v1020 p1020 q1020 h1020 => ?_))
        refine pt_d (pt_i2l gx280_56 h1020 (fun v1021 h1021 => ?_))
        refine pt_d (pt_lsub gx280_57 h1015 h1021 (fun v1022 h1022 => ?_))
        refine pt_d (pt_ladd gx280_58 z2 h1022 (fun v1023 h1023 => ?_))
        refine pt_d (pt_1 (fun n d => r_lstoren (L' := [some (.ref 72), some (.int x1), some (.long v1023), none, some (.int x4)]) gx280_59 rfl rfl) ?_)
        refine pt_d (pt_iinc (c := 1) gx280_60 rfl z4 (fun v1024 h1024 => ?_))
        show Pt _ _ _ _ [some (.ref 72), some (.int x1), some (.long v1023), none, some (.int v1024)] [] _ _
        refine pt_d (pt_1 (fun n d => r_goto gx280_63) ?_)
        exact ih280_17 h0 h_1014 x1 v1023 v1024 S1014 G1014 I1014
theorem wk_280 {n : Nat} {X : aX} {h : aH} {x1 : Int32} {a1 : Int} (S : wS h) (z1 : x1.toInt = a1) (I : IV h) : Pt n X zM280 0 [some (.ref 72), some (.int x1), none, none, none] [] h (qI (fun _ h' => wS h' ∧ hk h h' ∧ IV h')) := (wl_280 n).1 h h x1 S (hk_r h) I
theorem wl_281 {X : aX} : ∀ n : Nat, (∀ (h0 h : aH) (x1 : Int32) (x2 : Int32) (x3 : Int32), wS h → hk h0 h → IV h → Pt n X zM281 0 [some (.ref 72), some (.int x1), some (.int x2), some (.int x3), none, none, none, none, none, none] [] h (qI (fun _ h' => wS h' ∧ hk h0 h' ∧ IV h'))) ∧
    (∀ (h0 h : aH) (x1 : Int32) (x2 : Int32) (x3 : Int32), wS h → hk h0 h → IV h → Pt n X zM281 26 [some (.ref 72), some (.int x1), some (.int x2), some (.int x3), none, none, none, none, none, none] [] h (qI (fun _ h' => wS h' ∧ hk h0 h' ∧ IV h'))) ∧
    (∀ (h0 h : aH) (x1 : Int32) (x2 : Int32) (x3 : Int32) (x4 : Int64) (x6 : Int32), wS h → hk h0 h → IV h → Pt n X zM281 34 [some (.ref 72), some (.int x1), some (.int x2), some (.int x3), some (.long x4), none, some (.int x6), none, none, none] [] h (qI (fun _ h' => wS h' ∧ hk h0 h' ∧ IV h'))) ∧
    (∀ (h0 h : aH) (x1 : Int32) (x2 : Int32) (x3 : Int32) (x4 : Int64) (x6 : Int32) (xs1 : Int32), wS h → hk h0 h → IV h → Pt n X zM281 90 [some (.ref 72), some (.int x1), some (.int x2), some (.int x3), some (.long x4), none, some (.int x6), none, none, none] [.int xs1, .ref 130] h (qI (fun _ h' => wS h' ∧ hk h0 h' ∧ IV h'))) ∧
    (∀ (h0 h : aH) (x1 : Int32) (x2 : Int32) (x3 : Int32) (x4 : Int64) (x6 : Int32) (xs1 : Int32) (xs2 : Int64), wS h → hk h0 h → IV h → Pt n X zM281 91 [some (.ref 72), some (.int x1), some (.int x2), some (.int x3), some (.long x4), none, some (.int x6), none, none, none] [.long xs2, .int xs1, .ref 130] h (qI (fun _ h' => wS h' ∧ hk h0 h' ∧ IV h'))) ∧
    (∀ (h0 h : aH) (x1 : Int32) (x2 : Int32) (x3 : Int32) (x4 : Int64) (x6 : Int64) (x8 : Int32), wS h → hk h0 h → IV h → Pt n X zM281 133 [some (.ref 72), some (.int x1), some (.int x2), some (.int x3), some (.long x4), none, some (.long x6), none, some (.int x8), none] [] h (qI (fun _ h' => wS h' ∧ hk h0 h' ∧ IV h'))) ∧
    (∀ (h0 h : aH) (x1 : Int32) (x2 : Int32) (x3 : Int32) (x4 : Int64) (x6 : Int64) (x8 : Int32) (u9 : Option Value), wS h → hk h0 h → IV h → Pt n X zM281 180 [some (.ref 72), some (.int x1), some (.int x2), some (.int x3), some (.long x4), none, some (.long x6), none, some (.int x8), u9] [] h (qI (fun _ h' => wS h' ∧ hk h0 h' ∧ IV h'))) ∧
    (∀ (h0 h : aH) (x1 : Int32) (x2 : Int32) (x3 : Int32) (x4 : Int64) (x6 : Int64) (x8 : Int32) (x9 : Int32), wS h → hk h0 h → IV h → Pt n X zM281 193 [some (.ref 72), some (.int x1), some (.int x2), some (.int x3), some (.long x4), none, some (.long x6), none, some (.int x8), some (.int x9)] [] h (qI (fun _ h' => wS h' ∧ hk h0 h' ∧ IV h'))) ∧
    (∀ (h0 h : aH) (x1 : Int32) (x2 : Int32) (x3 : Int32) (x4 : Int64) (x6 : Int64) (x8 : Int32) (x9 : Int32), wS h → hk h0 h → IV h → Pt n X zM281 276 [some (.ref 72), some (.int x1), some (.int x2), some (.int x3), some (.long x4), none, some (.long x6), none, some (.int x8), some (.int x9)] [] h (qI (fun _ h' => wS h' ∧ hk h0 h' ∧ IV h'))) ∧
    (∀ (h0 h : aH) (x1 : Int32) (x2 : Int32) (x3 : Int32) (x4 : Int64) (x6 : Int64) (x8 : Int32) (x9 : Int32), wS h → hk h0 h → IV h → Pt n X zM281 280 [some (.ref 72), some (.int x1), some (.int x2), some (.int x3), some (.long x4), none, some (.long x6), none, some (.int x8), some (.int x9)] [] h (qI (fun _ h' => wS h' ∧ hk h0 h' ∧ IV h'))) := by
  intro n
  induction n with
  | zero => refine ⟨?_, ?_, ?_, ?_, ?_, ?_, ?_, ?_, ?_, ?_⟩ <;> (intros; exact pt_z)
  | succ n ih =>
    obtain ⟨ih281_0, ih281_26, ih281_34, ih281_90, ih281_91, ih281_133, ih281_180, ih281_193, ih281_276, ih281_280⟩ := ih
    refine ⟨?_, ?_, ?_, ?_, ?_, ?_, ?_, ?_, ?_, ?_⟩
    · intro h0 h x1 x2 x3 S G I
      obtain ⟨a1, z1⟩ : ∃ a : Int, x1.toInt = a := ⟨_, rfl⟩
      obtain ⟨a2, z2⟩ : ∃ a : Int, x2.toInt = a := ⟨_, rfl⟩
      obtain ⟨a3, z3⟩ : ∃ a : Int, x3.toInt = a := ⟨_, rfl⟩
      refine pt_1 (fun n d => r_aloadn gx281_0 rfl) ?_
      refine pt_d (pt_1 (fun n d => r_iloadn gx281_1 rfl) ?_)
      refine pt_d (pt_virt (as := [.int x1]) (r := []) gx281_2 rfl (show zmt[202]? = some zM202 from rfl) rfl rfl rfl rfl (c_202 S z1) (kqP (fun v1001 h1001 => ?_)))
      show Pt _ _ _ 5 _ [.int v1001] _ _
      refine pt_d (pt_ifB_eq gx281_5 h1001 (fun e1002 => ?_) (fun e1002 => ?_))
      · skip
        exact ih281_26 h0 h x1 x2 x3 S G I
      · skip
        refine pt_d (pt_1 (fun n d => r_iloadn gx281_8 rfl) ?_)
        refine pt_d (pt_stat (as := [.int x2]) (r := []) gx281_9 rfl (show zmt[198]? = some zM198 from rfl) rfl rfl rfl rfl (c_198 S z2) (kqP (fun v1003 h1003 => ?_)))
        show Pt _ _ _ 12 _ [.int v1003] _ _
        refine pt_d (pt_ifB_eq gx281_12 h1003 (fun e1004 => ?_) (fun e1004 => ?_))
        · skip
          exact ih281_26 h0 h x1 x2 x3 S G I
        · skip
          refine pt_d (pt_1 (fun n d => r_iloadn gx281_15 rfl) ?_)
          refine pt_d (pt_iconst gx281_16 (fun v1005 h1005 => ?_))
          refine pt_d (pt_ldc_w (c := 2000000000) gx281_17 rfl (fun v1006 h1006 => ?_))
          refine pt_d (pt_stat (as := [.int x3, .int v1005, .int v1006]) (r := []) gx281_20 rfl (show zmt[196]? = some zM196 from rfl) rfl rfl rfl rfl (c_196 S z3 h1005 h1006) (kqP (fun v1007 h1007 => ?_)))
          show Pt _ _ _ 23 _ [.int v1007] _ _
          refine pt_d (pt_ifB_ne gx281_23 h1007 (fun e1008 => ?_) (fun e1008 => ?_))
          · skip
            refine pt_d (pt_lconst (c := 0) gx281_28 rfl (fun v1009 h1009 => ?_))
            refine pt_d (pt_1 (fun n d => r_lstore (L' := [some (.ref 72), some (.int x1), some (.int x2), some (.int x3), some (.long v1009), none, none, none, none, none]) gx281_29 rfl rfl) ?_)
            refine pt_d (pt_iconst gx281_31 (fun v1010 h1010 => ?_))
            refine pt_d (pt_1 (fun n d => r_istore (L' := [some (.ref 72), some (.int x1), some (.int x2), some (.int x3), some (.long v1009), none, some (.int v1010), none, none, none]) gx281_32 rfl rfl) ?_)
            exact ih281_34 h0 h x1 x2 x3 v1009 v1010 S G I
          · skip
            exact ih281_26 h0 h x1 x2 x3 S G I
    · intro h0 h x1 x2 x3 S G I
      obtain ⟨a1, z1⟩ : ∃ a : Int, x1.toInt = a := ⟨_, rfl⟩
      obtain ⟨a2, z2⟩ : ∃ a : Int, x2.toInt = a := ⟨_, rfl⟩
      obtain ⟨a3, z3⟩ : ∃ a : Int, x3.toInt = a := ⟨_, rfl⟩
      refine pt_iconst gx281_26 (fun v1001 h1001 => ?_)
      exact pt_d (pt_iret gx281_27 ⟨_, rfl, S, G, I⟩)
    · intro h0 h x1 x2 x3 x4 x6 S G I
      obtain ⟨a1, z1⟩ : ∃ a : Int, x1.toInt = a := ⟨_, rfl⟩
      obtain ⟨a2, z2⟩ : ∃ a : Int, x2.toInt = a := ⟨_, rfl⟩
      obtain ⟨a3, z3⟩ : ∃ a : Int, x3.toInt = a := ⟨_, rfl⟩
      obtain ⟨a4, z4⟩ : ∃ a : Int, x4.toInt = a := ⟨_, rfl⟩
      obtain ⟨a6, z6⟩ : ∃ a : Int, x6.toInt = a := ⟨_, rfl⟩
      refine pt_1 (fun n d => r_iload gx281_34 rfl) ?_
      refine pt_d (pt_1 (fun n d => r_aloadn gx281_36 rfl) ?_)
      refine pt_d (pt_getI (B := 2) gx281_37 S (fun v1001 h1001 => ?_))
      refine pt_d (pt_icmp_ge gx281_40 z6 h1001 (fun e1002 => ?_) (fun e1002 => ?_))
      · skip
        refine pt_d (pt_1 (fun n d => r_lload gx281_110 rfl) ?_)
        refine pt_d (pt_1 (fun n d => r_iloadn gx281_112 rfl) ?_)
        refine pt_d (pt_i2l gx281_113 z3 (fun v1003 h1003 => ?_))
        refine pt_d (pt_lcmp_gt gx281_114 gx281_115 z4 h1003 (fun e1004 => ?_) (fun e1004 => ?_))
        · skip
          refine pt_d (pt_1 (fun n d => r_iloadn gx281_126 rfl) ?_)
          refine pt_d (pt_i2l gx281_127 z3 (fun v1005 h1005 => ?_))
          refine pt_d (pt_1 (fun n d => r_lstore (L' := [some (.ref 72), some (.int x1), some (.int x2), some (.int x3), some (.long x4), none, some (.long v1005), none, none, none]) gx281_128 rfl rfl) ?_)
          refine pt_d (pt_iconst gx281_130 (fun v1006 h1006 => ?_))
          refine pt_d (pt_1 (fun n d => r_istore (L' := [some (.ref 72), some (.int x1), some (.int x2), some (.int x3), some (.long x4), none, some (.long v1005), none, some (.int v1006), none]) gx281_131 rfl rfl) ?_)
          exact ih281_133 h0 h x1 x2 x3 x4 v1005 v1006 S G I
        · skip
          refine pt_d (pt_1 (fun n d => r_aloadn gx281_118 rfl) ?_)
          refine pt_d (pt_getR gx281_119 S tr_72_77 ?_)
          refine pt_d (pt_1 (fun n d => r_iloadn gx281_122 rfl) ?_)
          refine pt_d (pt_lald (N' := 150) gx281_123 S tl_130 z1 (fun v1008 p1008 q1008 h1008 => ?_))
          refine pt_d (pt_l2i gx281_124 h1008 (fun v1009 h1009 => ?_))
          exact pt_d (pt_iret gx281_125 ⟨_, rfl, S, G, I⟩)
      · skip
        refine pt_d (pt_1 (fun n d => r_aloadn gx281_43 rfl) ?_)
        refine pt_d (pt_getR gx281_44 S tr_72_77 ?_)
        refine pt_d (pt_1 (fun n d => r_iload gx281_47 rfl) ?_)
        refine pt_d (pt_1 (fun n d => r_aloadn gx281_49 rfl) ?_)
        refine pt_d (pt_1 (fun n d => r_iload gx281_50 rfl) ?_)
        refine pt_d (pt_virt (as := [.int x6]) (r := [.int x6, .ref 130]) gx281_52 rfl (show zmt[202]? = some zM202 from rfl) rfl rfl rfl rfl (c_202 S z6) (kqP (fun v1011 h1011 => ?_)))
        show Pt _ _ _ 55 _ [.int v1011, .int x6, .ref 130] _ _
        refine pt_d (pt_ifB_eq gx281_55 h1011 (fun e1012 => ?_) (fun e1012 => ?_))
        · skip
          exact ih281_90 h0 h x1 x2 x3 x4 x6 x6 S G I
        · skip
          refine pt_d (pt_1 (fun n d => r_aloadn gx281_58 rfl) ?_)
          refine pt_d (pt_getR gx281_59 S tr_72_4 ?_)
          refine pt_d (pt_1 (fun n d => r_iload gx281_62 rfl) ?_)
          refine pt_d (pt_iald (N' := 150) gx281_64 S tl_74 z6 (fun v1014 p1014 q1014 h1014 => ?_))
          refine pt_d (pt_1 (fun n d => r_aloadn gx281_65 rfl) ?_)
          refine pt_d (pt_getR gx281_66 S tr_72_4 ?_)
          refine pt_d (pt_1 (fun n d => r_iloadn gx281_69 rfl) ?_)
          refine pt_d (pt_iald (N' := 150) gx281_70 S tl_74 z1 (fun v1016 p1016 q1016 h1016 => ?_))
          refine pt_d (pt_icmp_ne gx281_71 h1014 h1016 (fun e1017 => ?_) (fun e1017 => ?_))
          · skip
            exact ih281_90 h0 h x1 x2 x3 x4 x6 x6 S G I
          · skip
            refine pt_d (pt_1 (fun n d => r_aloadn gx281_74 rfl) ?_)
            refine pt_d (pt_1 (fun n d => r_iload gx281_75 rfl) ?_)
            refine pt_d (pt_1 (fun n d => r_iloadn gx281_77 rfl) ?_)
            refine pt_d (pt_1 (fun n d => r_aloadn gx281_78 rfl) ?_)
            refine pt_d (pt_getI (B := 1) gx281_79 S (fun v1018 h1018 => ?_))
            refine pt_d (pt_iconst gx281_82 (fun v1019 h1019 => ?_))
            refine pt_d (pt_virt (as := [.int x6, .int x2, .int v1018, .int v1019]) (r := [.int x6, .ref 130]) gx281_83 rfl (show zmt[277]? = some zM277 from rfl) rfl rfl rfl rfl (wk_277 S z6 z2 h1018 h1019 I) (kqI (fun v1020 y1020 h_1020 h1020 P1020 => ?_)))
            have S1020 := P1020.1
            have G1020 := hk_t G P1020.2.1
            have I1020 := P1020.2.2
            show Pt _ _ _ 86 _ [.int v1020, .int x6, .ref 130] _ _
            refine pt_d (pt_i2l gx281_86 h1020 (fun v1021 h1021 => ?_))
            refine pt_d (pt_1 (fun n d => r_goto gx281_87) ?_)
            exact ih281_91 h0 h_1020 x1 x2 x3 x4 x6 x6 v1021 S1020 G1020 I1020
    · intro h0 h x1 x2 x3 x4 x6 xs1 S G I
      obtain ⟨a1, z1⟩ : ∃ a : Int, x1.toInt = a := ⟨_, rfl⟩
      obtain ⟨a2, z2⟩ : ∃ a : Int, x2.toInt = a := ⟨_, rfl⟩
      obtain ⟨a3, z3⟩ : ∃ a : Int, x3.toInt = a := ⟨_, rfl⟩
      obtain ⟨a4, z4⟩ : ∃ a : Int, x4.toInt = a := ⟨_, rfl⟩
      obtain ⟨a6, z6⟩ : ∃ a : Int, x6.toInt = a := ⟨_, rfl⟩
      obtain ⟨as1, zs1⟩ : ∃ a : Int, xs1.toInt = a := ⟨_, rfl⟩
      refine pt_lconst (c := 0) gx281_90 rfl (fun v1001 h1001 => ?_)
      exact ih281_91 h0 h x1 x2 x3 x4 x6 xs1 v1001 S G I
    · intro h0 h x1 x2 x3 x4 x6 xs1 xs2 S G I
      obtain ⟨a1, z1⟩ : ∃ a : Int, x1.toInt = a := ⟨_, rfl⟩
      obtain ⟨a2, z2⟩ : ∃ a : Int, x2.toInt = a := ⟨_, rfl⟩
      obtain ⟨a3, z3⟩ : ∃ a : Int, x3.toInt = a := ⟨_, rfl⟩
      obtain ⟨a4, z4⟩ : ∃ a : Int, x4.toInt = a := ⟨_, rfl⟩
      obtain ⟨a6, z6⟩ : ∃ a : Int, x6.toInt = a := ⟨_, rfl⟩
      obtain ⟨as1, zs1⟩ : ∃ a : Int, xs1.toInt = a := ⟨_, rfl⟩
      obtain ⟨as2, zs2⟩ : ∃ a : Int, xs2.toInt = a := ⟨_, rfl⟩
      refine pt_lasth (N' := 150) gx281_91 S tl_130 zs1 zs2 (fun h_1001 S1001 p1001 q1001 e1001 K1001 => ?_)
      have G1001 := hk_t G K1001
      have I1001 := IV_ua I K1001 e1001 (by decide)
      refine pt_d (pt_1 (fun n d => r_lload gx281_92 rfl) ?_)
      refine pt_d (pt_1 (fun n d => r_aloadn gx281_94 rfl) ?_)
      refine pt_d (pt_getR gx281_95 S1001 tr_72_77 ?_)
      refine pt_d (pt_1 (fun n d => r_iload gx281_98 rfl) ?_)
      refine pt_d (pt_lald (N' := 150) gx281_100 S1001 tl_130 z6 (fun v1003 p1003 q1003 h1003 => ?_))
      have h1003 : v1003.toInt = (up (vw h) 130 as1 as2) 130 a6 := by rw [h1003, e1001]
      refine pt_d (pt_ladd gx281_101 z4 h1003 (fun v1004 h1004 => ?_))
      refine pt_d (pt_1 (fun n d => r_lstore (L' := [some (.ref 72), some (.int x1), some (.int x2), some (.int x3), some (.long v1004), none, some (.int x6), none, none, none]) gx281_102 rfl rfl) ?_)
      refine pt_d (pt_iinc (c := 1) gx281_104 rfl z6 (fun v1005 h1005 => ?_))
      show Pt _ _ _ _ [some (.ref 72), some (.int x1), some (.int x2), some (.int x3), some (.long v1004), none, some (.int v1005), none, none, none] [] _ _
      refine pt_d (pt_1 (fun n d => r_goto gx281_107) ?_)
      exact ih281_34 h0 h_1001 x1 x2 x3 v1004 v1005 S1001 G1001 I1001
    · intro h0 h x1 x2 x3 x4 x6 x8 S G I
      obtain ⟨a1, z1⟩ : ∃ a : Int, x1.toInt = a := ⟨_, rfl⟩
      obtain ⟨a2, z2⟩ : ∃ a : Int, x2.toInt = a := ⟨_, rfl⟩
      obtain ⟨a3, z3⟩ : ∃ a : Int, x3.toInt = a := ⟨_, rfl⟩
      obtain ⟨a4, z4⟩ : ∃ a : Int, x4.toInt = a := ⟨_, rfl⟩
      obtain ⟨a6, z6⟩ : ∃ a : Int, x6.toInt = a := ⟨_, rfl⟩
      obtain ⟨a8, z8⟩ : ∃ a : Int, x8.toInt = a := ⟨_, rfl⟩
      refine pt_1 (fun n d => r_iload gx281_133 rfl) ?_
      refine pt_d (pt_1 (fun n d => r_aloadn gx281_135 rfl) ?_)
      refine pt_d (pt_getI (B := 2) gx281_136 S (fun v1001 h1001 => ?_))
      refine pt_d (pt_icmp_ge gx281_139 z8 h1001 (fun e1002 => ?_) (fun e1002 => ?_))
      · skip
        exact ih281_180 h0 h x1 x2 x3 x4 x6 x8 _ S G I
      · skip
        refine pt_d (pt_1 (fun n d => r_aloadn gx281_142 rfl) ?_)
        refine pt_d (pt_getR gx281_143 S tr_72_78 ?_)
        refine pt_d (pt_1 (fun n d => r_iload gx281_146 rfl) ?_)
        refine pt_d (pt_1 (fun n d => r_iloadn gx281_148 rfl) ?_)
        refine pt_d (pt_i2l gx281_149 z3 (fun v1004 h1004 => ?_))
        refine pt_d (pt_1 (fun n d => r_aloadn gx281_150 rfl) ?_)
        refine pt_d (pt_getR gx281_151 S tr_72_77 ?_)
        refine pt_d (pt_1 (fun n d => r_iload gx281_154 rfl) ?_)
        refine pt_d (pt_lald (N' := 150) gx281_156 S tl_130 z8 (fun v1006 p1006 q1006 h1006 => ?_))
        refine pt_d (pt_lmul gx281_157 h1004 h1006 (fun v1007 h1007 => ?_))
        refine pt_d (pt_1 (fun n d => r_lload gx281_158 rfl) ?_)
        refine pt_d (pt_ldiv gx281_160 h1007 z4 (fun v1008 h1008 => ?_))
        refine pt_d (pt_lasth (N' := 150) gx281_161 S tl_131 z8 h1008 (fun h_1009 S1009 p1009 q1009 e1009 K1009 => ?_))
        have G1009 := hk_t G K1009
        have I1009 := IV_ua I K1009 e1009 (by decide)
        refine pt_d (pt_1 (fun n d => r_lload gx281_162 rfl) ?_)
        refine pt_d (pt_1 (fun n d => r_aloadn gx281_164 rfl) ?_)
        refine pt_d (pt_getR gx281_165 S1009 tr_72_78 ?_)
        refine pt_d (pt_1 (fun n d => r_iload gx281_168 rfl) ?_)
        refine pt_d (pt_lald (N' := 150) gx281_170 S1009 tl_131 z8 (fun v1011 p1011 q1011 h1011 => ?_))
        have h1011 : v1011.toInt = jDiv (w64 (a3 * (vw h 130 a8))) a4 := by rw [h1011, e1009, up_s]
        refine pt_d (pt_lsub gx281_171 z6 h1011 (fun v1012 h1012 => ?_))
        refine pt_d (pt_1 (fun n d => r_lstore (L' := [some (.ref 72), some (.int x1), some (.int x2), some (.int x3), some (.long x4), none, some (.long v1012), none, some (.int x8), none]) gx281_172 rfl rfl) ?_)
        refine pt_d (pt_iinc (c := 1) gx281_174 rfl z8 (fun v1013 h1013 => ?_))
        show Pt _ _ _ _ [some (.ref 72), some (.int x1), some (.int x2), some (.int x3), some (.long x4), none, some (.long v1012), none, some (.int v1013), none] [] _ _
        refine pt_d (pt_1 (fun n d => r_goto gx281_177) ?_)
        exact ih281_133 h0 h_1009 x1 x2 x3 x4 v1012 v1013 S1009 G1009 I1009
    · intro h0 h x1 x2 x3 x4 x6 x8 u9 S G I
      obtain ⟨a1, z1⟩ : ∃ a : Int, x1.toInt = a := ⟨_, rfl⟩
      obtain ⟨a2, z2⟩ : ∃ a : Int, x2.toInt = a := ⟨_, rfl⟩
      obtain ⟨a3, z3⟩ : ∃ a : Int, x3.toInt = a := ⟨_, rfl⟩
      obtain ⟨a4, z4⟩ : ∃ a : Int, x4.toInt = a := ⟨_, rfl⟩
      obtain ⟨a6, z6⟩ : ∃ a : Int, x6.toInt = a := ⟨_, rfl⟩
      obtain ⟨a8, z8⟩ : ∃ a : Int, x8.toInt = a := ⟨_, rfl⟩
      refine pt_1 (fun n d => r_lload gx281_180 rfl) ?_
      refine pt_d (pt_lconst (c := 0) gx281_182 rfl (fun v1001 h1001 => ?_))
      refine pt_d (pt_lcmp_le gx281_183 gx281_184 z6 h1001 (fun e1002 => ?_) (fun e1002 => ?_))
      · skip
        refine pt_d (pt_1 (fun n d => r_aloadn gx281_306 rfl) ?_)
        refine pt_d (pt_getR gx281_307 S tr_72_78 ?_)
        refine pt_d (pt_1 (fun n d => r_iloadn gx281_310 rfl) ?_)
        refine pt_d (pt_lald (N' := 150) gx281_311 S tl_131 z1 (fun v1004 p1004 q1004 h1004 => ?_))
        refine pt_d (pt_l2i gx281_312 h1004 (fun v1005 h1005 => ?_))
        exact pt_d (pt_iret gx281_313 ⟨_, rfl, S, G, I⟩)
      · skip
        refine pt_d (pt_iconst gx281_187 (fun v1006 h1006 => ?_))
        refine pt_d (pt_1 (fun n d => r_istore (L' := [some (.ref 72), some (.int x1), some (.int x2), some (.int x3), some (.long x4), none, some (.long x6), none, some (.int v1006), u9]) gx281_188 rfl rfl) ?_)
        refine pt_d (pt_iconst gx281_190 (fun v1007 h1007 => ?_))
        refine pt_d (pt_1 (fun n d => r_istore (L' := [some (.ref 72), some (.int x1), some (.int x2), some (.int x3), some (.long x4), none, some (.long x6), none, some (.int v1006), some (.int v1007)]) gx281_191 rfl rfl) ?_)
        exact ih281_193 h0 h x1 x2 x3 x4 x6 v1006 v1007 S G I
    · intro h0 h x1 x2 x3 x4 x6 x8 x9 S G I
      obtain ⟨a1, z1⟩ : ∃ a : Int, x1.toInt = a := ⟨_, rfl⟩
      obtain ⟨a2, z2⟩ : ∃ a : Int, x2.toInt = a := ⟨_, rfl⟩
      obtain ⟨a3, z3⟩ : ∃ a : Int, x3.toInt = a := ⟨_, rfl⟩
      obtain ⟨a4, z4⟩ : ∃ a : Int, x4.toInt = a := ⟨_, rfl⟩
      obtain ⟨a6, z6⟩ : ∃ a : Int, x6.toInt = a := ⟨_, rfl⟩
      obtain ⟨a8, z8⟩ : ∃ a : Int, x8.toInt = a := ⟨_, rfl⟩
      obtain ⟨a9, z9⟩ : ∃ a : Int, x9.toInt = a := ⟨_, rfl⟩
      refine pt_1 (fun n d => r_iload gx281_193 rfl) ?_
      refine pt_d (pt_1 (fun n d => r_aloadn gx281_195 rfl) ?_)
      refine pt_d (pt_getI (B := 2) gx281_196 S (fun v1001 h1001 => ?_))
      refine pt_d (pt_icmp_ge gx281_199 z9 h1001 (fun e1002 => ?_) (fun e1002 => ?_))
      · skip
        refine pt_d (pt_1 (fun n d => r_aloadn gx281_286 rfl) ?_)
        refine pt_d (pt_getR gx281_287 S tr_72_78 ?_)
        refine pt_d (pt_1 (fun n d => r_iload gx281_290 rfl) ?_)
        refine pt_d (pt_1 (fun n d => r_dup2 gx281_292 rfl) ?_)
        refine pt_d (pt_lald (N' := 150) gx281_293 S tl_131 z8 (fun v1004 p1004 q1004 h1004 => ?_))
        refine pt_d (pt_lconst (c := 1) gx281_294 rfl (fun v1005 h1005 => ?_))
        refine pt_d (pt_ladd gx281_295 h1004 h1005 (fun v1006 h1006 => ?_))
        refine pt_d (pt_lasth (N' := 150) gx281_296 S tl_131 z8 h1006 (fun h_1007 S1007 p1007 q1007 e1007 K1007 => ?_))
        have G1007 := hk_t G K1007
        have I1007 := IV_ua I K1007 e1007 (by decide)
        refine pt_d (pt_1 (fun n d => r_lload gx281_297 rfl) ?_)
        refine pt_d (pt_lconst (c := 1) gx281_299 rfl (fun v1008 h1008 => ?_))
        refine pt_d (pt_lsub gx281_300 z6 h1008 (fun v1009 h1009 => ?_))
        refine pt_d (pt_1 (fun n d => r_lstore (L' := [some (.ref 72), some (.int x1), some (.int x2), some (.int x3), some (.long x4), none, some (.long v1009), none, some (.int x8), some (.int x9)]) gx281_301 rfl rfl) ?_)
        refine pt_d (pt_1 (fun n d => r_goto gx281_303) ?_)
        exact ih281_180 h0 h_1007 x1 x2 x3 x4 v1009 x8 _ S1007 G1007 I1007
      · skip
        refine pt_d (pt_1 (fun n d => r_aloadn gx281_202 rfl) ?_)
        refine pt_d (pt_getR gx281_203 S tr_72_77 ?_)
        refine pt_d (pt_1 (fun n d => r_iload gx281_206 rfl) ?_)
        refine pt_d (pt_lald (N' := 150) gx281_208 S tl_130 z9 (fun v1011 p1011 q1011 h1011 => ?_))
        refine pt_d (pt_lconst (c := 0) gx281_209 rfl (fun v1012 h1012 => ?_))
        refine pt_d (pt_lcmp_eq gx281_210 gx281_211 h1011 h1012 (fun e1013 => ?_) (fun e1013 => ?_))
        · skip
          exact ih281_280 h0 h x1 x2 x3 x4 x6 x8 x9 S G I
        · skip
          refine pt_d (pt_1 (fun n d => r_aloadn gx281_214 rfl) ?_)
          refine pt_d (pt_getR gx281_215 S tr_72_78 ?_)
          refine pt_d (pt_1 (fun n d => r_iload gx281_218 rfl) ?_)
          refine pt_d (pt_lald (N' := 150) gx281_220 S tl_131 z9 (fun v1015 p1015 q1015 h1015 => ?_))
          refine pt_d (pt_1 (fun n d => r_iloadn gx281_221 rfl) ?_)
          refine pt_d (pt_i2l gx281_222 z3 (fun v1016 h1016 => ?_))
          refine pt_d (pt_1 (fun n d => r_aloadn gx281_223 rfl) ?_)
          refine pt_d (pt_getR gx281_224 S tr_72_77 ?_)
          refine pt_d (pt_1 (fun n d => r_iload gx281_227 rfl) ?_)
          refine pt_d (pt_lald (N' := 150) gx281_229 S tl_130 z9 (fun v1018 p1018 q1018 h1018 => ?_))
          refine pt_d (pt_lmul gx281_230 h1016 h1018 (fun v1019 h1019 => ?_))
          refine pt_d (pt_1 (fun n d => r_lload gx281_231 rfl) ?_)
          refine pt_d (pt_ldiv gx281_233 h1019 z4 (fun v1020 h1020 => ?_))
          refine pt_d (pt_lcmp_le gx281_234 gx281_235 h1015 h1020 (fun e1021 => ?_) (fun e1021 => ?_))
          · skip
            refine pt_d (pt_1 (fun n d => r_iload gx281_241 rfl) ?_)
            refine pt_d (pt_if_lt gx281_243 z8 (fun e1022 => ?_) (fun e1022 => ?_))
            · skip
              exact ih281_276 h0 h x1 x2 x3 x4 x6 x8 x9 S G I
            · skip
              refine pt_d (pt_1 (fun n d => r_iloadn gx281_246 rfl) ?_)
              refine pt_d (pt_i2l gx281_247 z3 (fun v1023 h1023 => ?_))
              refine pt_d (pt_1 (fun n d => r_aloadn gx281_248 rfl) ?_)
              refine pt_d (pt_getR gx281_249 S tr_72_77 ?_)
              refine pt_d (pt_1 (fun n d => r_iload gx281_252 rfl) ?_)
              refine pt_d (pt_lald (N' := 150) gx281_254 S tl_130 z9 (fun v1025 p1025 q1025 h1025 => ?_))
              refine pt_d (pt_lmul gx281_255 h1023 h1025 (fun v1026 h1026 => ?_))
              refine pt_d (pt_1 (fun n d => r_lload gx281_256 rfl) ?_)
              refine pt_d (pt_lrem gx281_258 h1026 z4 (fun v1027 h1027 => ?_))
              refine pt_d (pt_1 (fun n d => r_iloadn gx281_259 rfl) ?_)
              refine pt_d (pt_i2l gx281_260 z3 (fun v1028 h1028 => ?_))
              refine pt_d (pt_1 (fun n d => r_aloadn gx281_261 rfl) ?_)
              refine pt_d (pt_getR gx281_262 S tr_72_77 ?_)
              refine pt_d (pt_1 (fun n d => r_iload gx281_265 rfl) ?_)
              refine pt_d (pt_lald (N' := 150) gx281_267 S tl_130 z8 (fun v1030 p1030 q1030 h1030 => ?_))
              refine pt_d (pt_lmul gx281_268 h1028 h1030 (fun v1031 h1031 => ?_))
              refine pt_d (pt_1 (fun n d => r_lload gx281_269 rfl) ?_)
              refine pt_d (pt_lrem gx281_271 h1031 z4 (fun v1032 h1032 => ?_))
              refine pt_d (pt_lcmp_le gx281_272 gx281_273 h1027 h1032 (fun e1033 => ?_) (fun e1033 => ?_))
              · skip
                exact ih281_280 h0 h x1 x2 x3 x4 x6 x8 x9 S G I
              · skip
                exact ih281_276 h0 h x1 x2 x3 x4 x6 x8 x9 S G I
          · skip
            refine pt_d (pt_1 (fun n d => r_goto gx281_238) ?_)
            exact ih281_280 h0 h x1 x2 x3 x4 x6 x8 x9 S G I
    · intro h0 h x1 x2 x3 x4 x6 x8 x9 S G I
      obtain ⟨a1, z1⟩ : ∃ a : Int, x1.toInt = a := ⟨_, rfl⟩
      obtain ⟨a2, z2⟩ : ∃ a : Int, x2.toInt = a := ⟨_, rfl⟩
      obtain ⟨a3, z3⟩ : ∃ a : Int, x3.toInt = a := ⟨_, rfl⟩
      obtain ⟨a4, z4⟩ : ∃ a : Int, x4.toInt = a := ⟨_, rfl⟩
      obtain ⟨a6, z6⟩ : ∃ a : Int, x6.toInt = a := ⟨_, rfl⟩
      obtain ⟨a8, z8⟩ : ∃ a : Int, x8.toInt = a := ⟨_, rfl⟩
      obtain ⟨a9, z9⟩ : ∃ a : Int, x9.toInt = a := ⟨_, rfl⟩
      refine pt_1 (fun n d => r_iload gx281_276 rfl) ?_
      refine pt_d (pt_1 (fun n d => r_istore (L' := [some (.ref 72), some (.int x1), some (.int x2), some (.int x3), some (.long x4), none, some (.long x6), none, some (.int x9), some (.int x9)]) gx281_278 rfl rfl) ?_)
      exact ih281_280 h0 h x1 x2 x3 x4 x6 x9 x9 S G I
    · intro h0 h x1 x2 x3 x4 x6 x8 x9 S G I
      obtain ⟨a1, z1⟩ : ∃ a : Int, x1.toInt = a := ⟨_, rfl⟩
      obtain ⟨a2, z2⟩ : ∃ a : Int, x2.toInt = a := ⟨_, rfl⟩
      obtain ⟨a3, z3⟩ : ∃ a : Int, x3.toInt = a := ⟨_, rfl⟩
      obtain ⟨a4, z4⟩ : ∃ a : Int, x4.toInt = a := ⟨_, rfl⟩
      obtain ⟨a6, z6⟩ : ∃ a : Int, x6.toInt = a := ⟨_, rfl⟩
      obtain ⟨a8, z8⟩ : ∃ a : Int, x8.toInt = a := ⟨_, rfl⟩
      obtain ⟨a9, z9⟩ : ∃ a : Int, x9.toInt = a := ⟨_, rfl⟩
      refine pt_iinc (c := 1) gx281_280 rfl z9 (fun v1001 h1001 => ?_)
      show Pt _ _ _ _ [some (.ref 72), some (.int x1), some (.int x2), some (.int x3), some (.long x4), none, some (.long x6), none, some (.int x8), some (.int v1001)] [] _ _
      refine pt_d (pt_1 (fun n d => r_goto gx281_283) ?_)
      exact ih281_193 h0 h x1 x2 x3 x4 x6 x8 v1001 S G I
theorem wk_281 {n : Nat} {X : aX} {h : aH} {x1 : Int32} {x2 : Int32} {x3 : Int32} {a1 : Int} {a2 : Int} {a3 : Int} (S : wS h) (z1 : x1.toInt = a1) (z2 : x2.toInt = a2) (z3 : x3.toInt = a3) (I : IV h) : Pt n X zM281 0 [some (.ref 72), some (.int x1), some (.int x2), some (.int x3), none, none, none, none, none, none] [] h (qI (fun _ h' => wS h' ∧ hk h h' ∧ IV h')) := (wl_281 n).1 h h x1 x2 x3 S (hk_r h) I
theorem wl_282 {X : aX} : ∀ n : Nat, (∀ (h0 h : aH) (x1 : Int32) (x2 : Int32), wS h → hk h0 h → IV h → Pt n X zM282 0 [some (.ref 72), some (.int x1), some (.int x2), none] [] h (qI (fun _ h' => wS h' ∧ hk h0 h' ∧ IV h'))) ∧
    (∀ (h0 h : aH) (x1 : Int32) (x2 : Int32) (x3 : Int32), wS h → hk h0 h → IV h → Pt n X zM282 2 [some (.ref 72), some (.int x1), some (.int x2), some (.int x3)] [] h (qI (fun _ h' => wS h' ∧ hk h0 h' ∧ IV h'))) := by
  intro n
  induction n with
  | zero => refine ⟨?_, ?_⟩ <;> (intros; exact pt_z)
  | succ n ih =>
    obtain ⟨ih282_0, ih282_2⟩ := ih
    refine ⟨?_, ?_⟩
    · intro h0 h x1 x2 S G I
      obtain ⟨a1, z1⟩ : ∃ a : Int, x1.toInt = a := ⟨_, rfl⟩
      obtain ⟨a2, z2⟩ : ∃ a : Int, x2.toInt = a := ⟨_, rfl⟩
      refine pt_iconst gx282_0 (fun v1001 h1001 => ?_)
      refine pt_d (pt_1 (fun n d => r_istoren (L' := [some (.ref 72), some (.int x1), some (.int x2), some (.int v1001)]) gx282_1 rfl rfl) ?_)
      exact ih282_2 h0 h x1 x2 v1001 S G I
    · intro h0 h x1 x2 x3 S G I
      obtain ⟨a1, z1⟩ : ∃ a : Int, x1.toInt = a := ⟨_, rfl⟩
      obtain ⟨a2, z2⟩ : ∃ a : Int, x2.toInt = a := ⟨_, rfl⟩
      obtain ⟨a3, z3⟩ : ∃ a : Int, x3.toInt = a := ⟨_, rfl⟩
      refine pt_1 (fun n d => r_iloadn gx282_2 rfl) ?_
      refine pt_d (pt_bipush gx282_3 (fun v1001 h1001 => ?_))
      refine pt_d (pt_icmp_ge gx282_5 z3 h1001 (fun e1002 => ?_) (fun e1002 => ?_))
      · skip
        refine pt_d (pt_iconst gx282_42 (fun v1003 h1003 => ?_))
        exact pt_d (pt_iret gx282_43 ⟨_, rfl, S, G, I⟩)
      · skip
        refine pt_d (pt_1 (fun n d => r_aloadn gx282_8 rfl) ?_)
        refine pt_d (pt_getR gx282_9 S tr_72_10 ?_)
        refine pt_d (pt_bipush gx282_12 (fun v1005 h1005 => ?_))
        refine pt_d (pt_1 (fun n d => r_iloadn gx282_14 rfl) ?_)
        refine pt_d (pt_imul gx282_15 h1005 z1 (fun v1006 h1006 => ?_))
        refine pt_d (pt_1 (fun n d => r_iloadn gx282_16 rfl) ?_)
        refine pt_d (pt_iadd gx282_17 h1006 z3 (fun v1007 h1007 => ?_))
        refine pt_d (pt_iald (N' := 3600) gx282_18 S tl_80 h1007 (fun v1008 p1008 q1008 h1008 => ?_))
        refine pt_d (pt_1 (fun n d => r_aloadn gx282_19 rfl) ?_)
        refine pt_d (pt_getR gx282_20 S tr_72_10 ?_)
        refine pt_d (pt_bipush gx282_23 (fun v1010 h1010 => ?_))
        refine pt_d (pt_1 (fun n d => r_iloadn gx282_25 rfl) ?_)
        refine pt_d (pt_imul gx282_26 h1010 z2 (fun v1011 h1011 => ?_))
        refine pt_d (pt_1 (fun n d => r_iloadn gx282_27 rfl) ?_)
        refine pt_d (pt_iadd gx282_28 h1011 z3 (fun v1012 h1012 => ?_))
        refine pt_d (pt_iald (N' := 3600) gx282_29 S tl_80 h1012 (fun v1013 p1013 q1013 h1013 => ?_))
        refine pt_d (pt_iand gx282_30 h1008 h1013 (fun v1014 h1014 => ?_))
        refine pt_d (pt_if_eq gx282_31 h1014 (fun e1015 => ?_) (fun e1015 => ?_))
        · skip
          refine pt_d (pt_iinc (c := 1) gx282_36 rfl z3 (fun v1016 h1016 => ?_))
          show Pt _ _ _ _ [some (.ref 72), some (.int x1), some (.int x2), some (.int v1016)] [] _ _
          refine pt_d (pt_1 (fun n d => r_goto gx282_39) ?_)
          exact ih282_2 h0 h x1 x2 v1016 S G I
        · skip
          refine pt_d (pt_iconst gx282_34 (fun v1017 h1017 => ?_))
          exact pt_d (pt_iret gx282_35 ⟨_, rfl, S, G, I⟩)
theorem wk_282 {n : Nat} {X : aX} {h : aH} {x1 : Int32} {x2 : Int32} {a1 : Int} {a2 : Int} (S : wS h) (z1 : x1.toInt = a1) (z2 : x2.toInt = a2) (I : IV h) : Pt n X zM282 0 [some (.ref 72), some (.int x1), some (.int x2), none] [] h (qI (fun _ h' => wS h' ∧ hk h h' ∧ IV h')) := (wl_282 n).1 h h x1 x2 S (hk_r h) I
theorem wl_283 {X : aX} : ∀ n : Nat, (∀ (h0 h : aH) (x1 : Int32) (x2 : Int32), wS h → hk h0 h → IV h → Pt n X zM283 0 [some (.ref 72), some (.int x1), some (.int x2)] [] h (qI (fun _ h' => wS h' ∧ hk h0 h' ∧ IV h'))) := by
  intro n
  induction n with
  | zero => refine ?_ <;> (intros; exact pt_z)
  | succ n ih =>
    have ih283_0 := ih
    refine ?_
    · intro h0 h x1 x2 S G I
      obtain ⟨a1, z1⟩ : ∃ a : Int, x1.toInt = a := ⟨_, rfl⟩
      obtain ⟨a2, z2⟩ : ∃ a : Int, x2.toInt = a := ⟨_, rfl⟩
      refine pt_1 (fun n d => r_aloadn gx283_0 rfl) ?_
      refine pt_d (pt_getR gx283_1 S tr_72_20 ?_)
      refine pt_d (pt_1 (fun n d => r_iloadn gx283_4 rfl) ?_)
      refine pt_d (pt_iald (N' := 300) gx283_5 S tl_87 z1 (fun v1002 p1002 q1002 h1002 => ?_))
      refine pt_d (pt_1 (fun n d => r_aloadn gx283_6 rfl) ?_)
      refine pt_d (pt_getR gx283_7 S tr_72_20 ?_)
      refine pt_d (pt_1 (fun n d => r_iloadn gx283_10 rfl) ?_)
      refine pt_d (pt_iald (N' := 300) gx283_11 S tl_87 z2 (fun v1004 p1004 q1004 h1004 => ?_))
      refine pt_d (pt_icmp_eq gx283_12 h1002 h1004 (fun e1005 => ?_) (fun e1005 => ?_))
      · skip
        refine pt_d (pt_iconst gx283_38 (fun v1006 h1006 => ?_))
        exact pt_d (pt_iret gx283_39 ⟨_, rfl, S, G, I⟩)
      · skip
        refine pt_d (pt_1 (fun n d => r_aloadn gx283_15 rfl) ?_)
        refine pt_d (pt_1 (fun n d => r_aloadn gx283_16 rfl) ?_)
        refine pt_d (pt_getR gx283_17 S tr_72_21 ?_)
        refine pt_d (pt_1 (fun n d => r_iloadn gx283_20 rfl) ?_)
        refine pt_d (pt_iald (N' := 300) gx283_21 S tl_88 z1 (fun v1008 p1008 q1008 h1008 => ?_))
        refine pt_d (pt_1 (fun n d => r_aloadn gx283_22 rfl) ?_)
        refine pt_d (pt_getR gx283_23 S tr_72_21 ?_)
        refine pt_d (pt_1 (fun n d => r_iloadn gx283_26 rfl) ?_)
        refine pt_d (pt_iald (N' := 300) gx283_27 S tl_88 z2 (fun v1010 p1010 q1010 h1010 => ?_))
        refine pt_d (pt_virt (as := [.int v1008, .int v1010]) (r := []) gx283_28 rfl (show zmt[282]? = some zM282 from rfl) rfl rfl rfl rfl (wk_282 S h1008 h1010 I) (kqI (fun v1011 y1011 h_1011 h1011 P1011 => ?_)))
        have S1011 := P1011.1
        have G1011 := hk_t G P1011.2.1
        have I1011 := P1011.2.2
        show Pt _ _ _ 31 _ [.int v1011] _ _
        refine pt_d (pt_if_eq gx283_31 h1011 (fun e1012 => ?_) (fun e1012 => ?_))
        · skip
          refine pt_d (pt_iconst gx283_38 (fun v1013 h1013 => ?_))
          exact pt_d (pt_iret gx283_39 ⟨_, rfl, S1011, G1011, I1011⟩)
        · skip
          refine pt_d (pt_iconst gx283_34 (fun v1014 h1014 => ?_))
          refine pt_d (pt_1 (fun n d => r_goto gx283_35) ?_)
          exact pt_d (pt_iret gx283_39 ⟨_, rfl, S1011, G1011, I1011⟩)
theorem wk_283 {n : Nat} {X : aX} {h : aH} {x1 : Int32} {x2 : Int32} {a1 : Int} {a2 : Int} (S : wS h) (z1 : x1.toInt = a1) (z2 : x2.toInt = a2) (I : IV h) : Pt n X zM283 0 [some (.ref 72), some (.int x1), some (.int x2)] [] h (qI (fun _ h' => wS h' ∧ hk h h' ∧ IV h')) := (wl_283 n) h h x1 x2 S (hk_r h) I
theorem wl_284 {X : aX} : ∀ n : Nat, (∀ (h0 h : aH) (x1 : Int32) (x2 : Int32), wS h → hk h0 h → IV h → Pt n X zM284 0 [some (.ref 72), some (.int x1), some (.int x2), none, none] [] h (qI (fun _ h' => wS h' ∧ hk h0 h' ∧ IV h'))) ∧
    (∀ (h0 h : aH) (x1 : Int32) (x2 : Int32) (x3 : Int32) (u4 : Option Value), wS h → hk h0 h → IV h → Pt n X zM284 2 [some (.ref 72), some (.int x1), some (.int x2), some (.int x3), u4] [] h (qI (fun _ h' => wS h' ∧ hk h0 h' ∧ IV h'))) ∧
    (∀ (h0 h : aH) (x1 : Int32) (x2 : Int32) (x3 : Int32) (x4 : Int32), wS h → hk h0 h → IV h → Pt n X zM284 44 [some (.ref 72), some (.int x1), some (.int x2), some (.int x3), some (.int x4)] [] h (qI (fun _ h' => wS h' ∧ hk h0 h' ∧ IV h'))) := by
  intro n
  induction n with
  | zero => refine ⟨?_, ?_, ?_⟩ <;> (intros; exact pt_z)
  | succ n ih =>
    obtain ⟨ih284_0, ih284_2, ih284_44⟩ := ih
    refine ⟨?_, ?_, ?_⟩
    · intro h0 h x1 x2 S G I
      obtain ⟨a1, z1⟩ : ∃ a : Int, x1.toInt = a := ⟨_, rfl⟩
      obtain ⟨a2, z2⟩ : ∃ a : Int, x2.toInt = a := ⟨_, rfl⟩
      refine pt_iconst gx284_0 (fun v1001 h1001 => ?_)
      refine pt_d (pt_1 (fun n d => r_istoren (L' := [some (.ref 72), some (.int x1), some (.int x2), some (.int v1001), none]) gx284_1 rfl rfl) ?_)
      exact ih284_2 h0 h x1 x2 v1001 _ S G I
    · intro h0 h x1 x2 x3 u4 S G I
      obtain ⟨a1, z1⟩ : ∃ a : Int, x1.toInt = a := ⟨_, rfl⟩
      obtain ⟨a2, z2⟩ : ∃ a : Int, x2.toInt = a := ⟨_, rfl⟩
      obtain ⟨a3, z3⟩ : ∃ a : Int, x3.toInt = a := ⟨_, rfl⟩
      refine pt_1 (fun n d => r_iloadn gx284_2 rfl) ?_
      refine pt_d (pt_1 (fun n d => r_aloadn gx284_3 rfl) ?_)
      refine pt_d (pt_getI (B := 19) gx284_4 S (fun v1001 h1001 => ?_))
      refine pt_d (pt_icmp_ge gx284_7 z3 h1001 (fun e1002 => ?_) (fun e1002 => ?_))
      · skip
        refine pt_d (pt_iconst gx284_97 (fun v1003 h1003 => ?_))
        exact pt_d (pt_iret gx284_98 ⟨_, rfl, S, G, I⟩)
      · skip
        refine pt_d (pt_1 (fun n d => r_aloadn gx284_10 rfl) ?_)
        refine pt_d (pt_getR gx284_11 S tr_72_40 ?_)
        refine pt_d (pt_1 (fun n d => r_iloadn gx284_14 rfl) ?_)
        refine pt_d (pt_zald (N' := 300) gx284_15 S tl_103 z3 (fun v1005 p1005 q1005 h1005 => ?_))
        refine pt_d (pt_if_eq gx284_16 h1005 (fun e1006 => ?_) (fun e1006 => ?_))
        · skip
          refine pt_d (pt_iinc (c := 1) gx284_91 rfl z3 (fun v1007 h1007 => ?_))
          show Pt _ _ _ _ [some (.ref 72), some (.int x1), some (.int x2), some (.int v1007), u4] [] _ _
          refine pt_d (pt_1 (fun n d => r_goto gx284_94) ?_)
          exact ih284_2 h0 h x1 x2 v1007 _ S G I
        · skip
          refine pt_d (pt_1 (fun n d => r_aloadn gx284_19 rfl) ?_)
          refine pt_d (pt_1 (fun n d => r_iloadn gx284_20 rfl) ?_)
          refine pt_d (pt_virt (as := [.int x3]) (r := []) gx284_21 rfl (show zmt[229]? = some zM229 from rfl) rfl rfl rfl rfl (c_229 S z3) (kqP (fun v1008 h1008 => ?_)))
          show Pt _ _ _ 24 _ [.int v1008] _ _
          refine pt_d (pt_1 (fun n d => r_iloadn gx284_24 rfl) ?_)
          refine pt_d (pt_icmp_ne gx284_25 h1008 z2 (fun e1009 => ?_) (fun e1009 => ?_))
          · skip
            refine pt_d (pt_iinc (c := 1) gx284_91 rfl z3 (fun v1010 h1010 => ?_))
            show Pt _ _ _ _ [some (.ref 72), some (.int x1), some (.int x2), some (.int v1010), u4] [] _ _
            refine pt_d (pt_1 (fun n d => r_goto gx284_94) ?_)
            exact ih284_2 h0 h x1 x2 v1010 _ S G I
          · skip
            refine pt_d (pt_1 (fun n d => r_aloadn gx284_28 rfl) ?_)
            refine pt_d (pt_getR gx284_29 S tr_72_21 ?_)
            refine pt_d (pt_1 (fun n d => r_iloadn gx284_32 rfl) ?_)
            refine pt_d (pt_iald (N' := 300) gx284_33 S tl_88 z3 (fun v1012 p1012 q1012 h1012 => ?_))
            refine pt_d (pt_1 (fun n d => r_iloadn gx284_34 rfl) ?_)
            refine pt_d (pt_icmp_eq gx284_35 h1012 z1 (fun e1013 => ?_) (fun e1013 => ?_))
            · skip
              refine pt_d (pt_iconst gx284_41 (fun v1014 h1014 => ?_))
              refine pt_d (pt_1 (fun n d => r_istore (L' := [some (.ref 72), some (.int x1), some (.int x2), some (.int x3), some (.int v1014)]) gx284_42 rfl rfl) ?_)
              exact ih284_44 h0 h x1 x2 x3 v1014 S G I
            · skip
              refine pt_d (pt_1 (fun n d => r_goto gx284_38) ?_)
              refine pt_d (pt_iinc (c := 1) gx284_91 rfl z3 (fun v1015 h1015 => ?_))
              show Pt _ _ _ _ [some (.ref 72), some (.int x1), some (.int x2), some (.int v1015), u4] [] _ _
              refine pt_d (pt_1 (fun n d => r_goto gx284_94) ?_)
              exact ih284_2 h0 h x1 x2 v1015 _ S G I
    · intro h0 h x1 x2 x3 x4 S G I
      obtain ⟨a1, z1⟩ : ∃ a : Int, x1.toInt = a := ⟨_, rfl⟩
      obtain ⟨a2, z2⟩ : ∃ a : Int, x2.toInt = a := ⟨_, rfl⟩
      obtain ⟨a3, z3⟩ : ∃ a : Int, x3.toInt = a := ⟨_, rfl⟩
      obtain ⟨a4, z4⟩ : ∃ a : Int, x4.toInt = a := ⟨_, rfl⟩
      refine pt_1 (fun n d => r_iload gx284_44 rfl) ?_
      refine pt_d (pt_1 (fun n d => r_aloadn gx284_46 rfl) ?_)
      refine pt_d (pt_getI (B := 19) gx284_47 S (fun v1001 h1001 => ?_))
      refine pt_d (pt_icmp_ge gx284_50 z4 h1001 (fun e1002 => ?_) (fun e1002 => ?_))
      · skip
        refine pt_d (pt_iinc (c := 1) gx284_91 rfl z3 (fun v1003 h1003 => ?_))
        show Pt _ _ _ _ [some (.ref 72), some (.int x1), some (.int x2), some (.int v1003), some (.int x4)] [] _ _
        refine pt_d (pt_1 (fun n d => r_goto gx284_94) ?_)
        exact ih284_2 h0 h x1 x2 v1003 _ S G I
      · skip
        refine pt_d (pt_1 (fun n d => r_aloadn gx284_53 rfl) ?_)
        refine pt_d (pt_getR gx284_54 S tr_72_40 ?_)
        refine pt_d (pt_1 (fun n d => r_iload gx284_57 rfl) ?_)
        refine pt_d (pt_zald (N' := 300) gx284_59 S tl_103 z4 (fun v1005 p1005 q1005 h1005 => ?_))
        refine pt_d (pt_if_eq gx284_60 h1005 (fun e1006 => ?_) (fun e1006 => ?_))
        · skip
          refine pt_d (pt_iinc (c := 1) gx284_85 rfl z4 (fun v1007 h1007 => ?_))
          show Pt _ _ _ _ [some (.ref 72), some (.int x1), some (.int x2), some (.int x3), some (.int v1007)] [] _ _
          refine pt_d (pt_1 (fun n d => r_goto gx284_88) ?_)
          exact ih284_44 h0 h x1 x2 x3 v1007 S G I
        · skip
          refine pt_d (pt_1 (fun n d => r_aloadn gx284_63 rfl) ?_)
          refine pt_d (pt_1 (fun n d => r_iload gx284_64 rfl) ?_)
          refine pt_d (pt_virt (as := [.int x4]) (r := []) gx284_66 rfl (show zmt[229]? = some zM229 from rfl) rfl rfl rfl rfl (c_229 S z4) (kqP (fun v1008 h1008 => ?_)))
          show Pt _ _ _ 69 _ [.int v1008] _ _
          refine pt_d (pt_1 (fun n d => r_iloadn gx284_69 rfl) ?_)
          refine pt_d (pt_icmp_ne gx284_70 h1008 z2 (fun e1009 => ?_) (fun e1009 => ?_))
          · skip
            refine pt_d (pt_iinc (c := 1) gx284_85 rfl z4 (fun v1010 h1010 => ?_))
            show Pt _ _ _ _ [some (.ref 72), some (.int x1), some (.int x2), some (.int x3), some (.int v1010)] [] _ _
            refine pt_d (pt_1 (fun n d => r_goto gx284_88) ?_)
            exact ih284_44 h0 h x1 x2 x3 v1010 S G I
          · skip
            refine pt_d (pt_1 (fun n d => r_aloadn gx284_73 rfl) ?_)
            refine pt_d (pt_1 (fun n d => r_iloadn gx284_74 rfl) ?_)
            refine pt_d (pt_1 (fun n d => r_iload gx284_75 rfl) ?_)
            refine pt_d (pt_virt (as := [.int x3, .int x4]) (r := []) gx284_77 rfl (show zmt[283]? = some zM283 from rfl) rfl rfl rfl rfl (wk_283 S z3 z4 I) (kqI (fun v1011 y1011 h_1011 h1011 P1011 => ?_)))
            have S1011 := P1011.1
            have G1011 := hk_t G P1011.2.1
            have I1011 := P1011.2.2
            show Pt _ _ _ 80 _ [.int v1011] _ _
            refine pt_d (pt_if_eq gx284_80 h1011 (fun e1012 => ?_) (fun e1012 => ?_))
            · skip
              refine pt_d (pt_iinc (c := 1) gx284_85 rfl z4 (fun v1013 h1013 => ?_))
              show Pt _ _ _ _ [some (.ref 72), some (.int x1), some (.int x2), some (.int x3), some (.int v1013)] [] _ _
              refine pt_d (pt_1 (fun n d => r_goto gx284_88) ?_)
              exact ih284_44 h0 h_1011 x1 x2 x3 v1013 S1011 G1011 I1011
            · skip
              refine pt_d (pt_iconst gx284_83 (fun v1014 h1014 => ?_))
              exact pt_d (pt_iret gx284_84 ⟨_, rfl, S1011, G1011, I1011⟩)
theorem wk_284 {n : Nat} {X : aX} {h : aH} {x1 : Int32} {x2 : Int32} {a1 : Int} {a2 : Int} (S : wS h) (z1 : x1.toInt = a1) (z2 : x2.toInt = a2) (I : IV h) : Pt n X zM284 0 [some (.ref 72), some (.int x1), some (.int x2), none, none] [] h (qI (fun _ h' => wS h' ∧ hk h h' ∧ IV h')) := (wl_284 n).1 h h x1 x2 S (hk_r h) I
theorem wl_285 {X : aX} : ∀ n : Nat, (∀ (h0 h : aH) (x1 : Int32) (x2 : Int32), wS h → hk h0 h → IV h → Pt n X zM285 0 [some (.ref 72), some (.int x1), some (.int x2), none] [] h (qI (fun _ h' => wS h' ∧ hk h0 h' ∧ IV h'))) ∧
    (∀ (h0 h : aH) (x1 : Int32) (x2 : Int32) (x3 : Int32), wS h → hk h0 h → IV h → Pt n X zM285 2 [some (.ref 72), some (.int x1), some (.int x2), some (.int x3)] [] h (qI (fun _ h' => wS h' ∧ hk h0 h' ∧ IV h'))) := by
  intro n
  induction n with
  | zero => refine ⟨?_, ?_⟩ <;> (intros; exact pt_z)
  | succ n ih =>
    obtain ⟨ih285_0, ih285_2⟩ := ih
    refine ⟨?_, ?_⟩
    · intro h0 h x1 x2 S G I
      obtain ⟨a1, z1⟩ : ∃ a : Int, x1.toInt = a := ⟨_, rfl⟩
      obtain ⟨a2, z2⟩ : ∃ a : Int, x2.toInt = a := ⟨_, rfl⟩
      refine pt_iconst gx285_0 (fun v1001 h1001 => ?_)
      refine pt_d (pt_1 (fun n d => r_istoren (L' := [some (.ref 72), some (.int x1), some (.int x2), some (.int v1001)]) gx285_1 rfl rfl) ?_)
      exact ih285_2 h0 h x1 x2 v1001 S G I
    · intro h0 h x1 x2 x3 S G I
      obtain ⟨a1, z1⟩ : ∃ a : Int, x1.toInt = a := ⟨_, rfl⟩
      obtain ⟨a2, z2⟩ : ∃ a : Int, x2.toInt = a := ⟨_, rfl⟩
      obtain ⟨a3, z3⟩ : ∃ a : Int, x3.toInt = a := ⟨_, rfl⟩
      refine pt_1 (fun n d => r_iloadn gx285_2 rfl) ?_
      refine pt_d (pt_1 (fun n d => r_aloadn gx285_3 rfl) ?_)
      refine pt_d (pt_getI (B := 79) gx285_4 S (fun v1001 h1001 => ?_))
      refine pt_d (pt_icmp_ge gx285_7 z3 h1001 (fun e1002 => ?_) (fun e1002 => ?_))
      · skip
        refine pt_d (pt_iconst gx285_37 (fun v1003 h1003 => ?_))
        exact pt_d (pt_iret gx285_38 ⟨_, rfl, S, G, I⟩)
      · skip
        refine pt_d (pt_1 (fun n d => r_iloadn gx285_10 rfl) ?_)
        refine pt_d (pt_1 (fun n d => r_iloadn gx285_11 rfl) ?_)
        refine pt_d (pt_ishr gx285_12 z2 z3 (fun v1004 h1004 => ?_))
        refine pt_d (pt_iconst gx285_13 (fun v1005 h1005 => ?_))
        refine pt_d (pt_iand gx285_14 h1004 h1005 (fun v1006 h1006 => ?_))
        refine pt_d (pt_iconst gx285_15 (fun v1007 h1007 => ?_))
        refine pt_d (pt_icmp_ne gx285_16 h1006 h1007 (fun e1008 => ?_) (fun e1008 => ?_))
        · skip
          refine pt_d (pt_iinc (c := 1) gx285_31 rfl z3 (fun v1009 h1009 => ?_))
          show Pt _ _ _ _ [some (.ref 72), some (.int x1), some (.int x2), some (.int v1009)] [] _ _
          refine pt_d (pt_1 (fun n d => r_goto gx285_34) ?_)
          exact ih285_2 h0 h x1 x2 v1009 S G I
        · skip
          refine pt_d (pt_1 (fun n d => r_aloadn gx285_19 rfl) ?_)
          refine pt_d (pt_getR gx285_20 S tr_72_80 ?_)
          refine pt_d (pt_1 (fun n d => r_iloadn gx285_23 rfl) ?_)
          refine pt_d (pt_iald (N' := 10) gx285_24 S tl_132 z3 (fun v1011 p1011 q1011 h1011 => ?_))
          refine pt_d (pt_1 (fun n d => r_iloadn gx285_25 rfl) ?_)
          refine pt_d (pt_icmp_ne gx285_26 h1011 z1 (fun e1012 => ?_) (fun e1012 => ?_))
          · skip
            refine pt_d (pt_iinc (c := 1) gx285_31 rfl z3 (fun v1013 h1013 => ?_))
            show Pt _ _ _ _ [some (.ref 72), some (.int x1), some (.int x2), some (.int v1013)] [] _ _
            refine pt_d (pt_1 (fun n d => r_goto gx285_34) ?_)
            exact ih285_2 h0 h x1 x2 v1013 S G I
          · skip
            refine pt_d (pt_iconst gx285_29 (fun v1014 h1014 => ?_))
            exact pt_d (pt_iret gx285_30 ⟨_, rfl, S, G, I⟩)
theorem wk_285 {n : Nat} {X : aX} {h : aH} {x1 : Int32} {x2 : Int32} {a1 : Int} {a2 : Int} (S : wS h) (z1 : x1.toInt = a1) (z2 : x2.toInt = a2) (I : IV h) : Pt n X zM285 0 [some (.ref 72), some (.int x1), some (.int x2), none] [] h (qI (fun _ h' => wS h' ∧ hk h h' ∧ IV h')) := (wl_285 n).1 h h x1 x2 S (hk_r h) I
theorem wl_286 {X : aX} : ∀ n : Nat, (∀ (h0 h : aH) (x1 : Int32) (x2 : Int32), wS h → hk h0 h → IV h → Pt n X zM286 0 [some (.ref 72), some (.int x1), some (.int x2), none, none] [] h (qI (fun _ h' => wS h' ∧ hk h0 h' ∧ IV h'))) ∧
    (∀ (h0 h : aH) (x1 : Int32) (x2 : Int32) (x3 : Int32) (u4 : Option Value), wS h → hk h0 h → IV h → Pt n X zM286 2 [some (.ref 72), some (.int x1), some (.int x2), some (.int x3), u4] [] h (qI (fun _ h' => wS h' ∧ hk h0 h' ∧ IV h'))) ∧
    (∀ (h0 h : aH) (x1 : Int32) (x2 : Int32) (x3 : Int32) (x4 : Int32), wS h → hk h0 h → IV h → Pt n X zM286 50 [some (.ref 72), some (.int x1), some (.int x2), some (.int x3), some (.int x4)] [] h (qI (fun _ h' => wS h' ∧ hk h0 h' ∧ IV h'))) ∧
    (∀ (h0 h : aH) (x1 : Int32) (x2 : Int32) (x3 : Int32) (x4 : Int32), wS h → hk h0 h → IV h → Pt n X zM286 106 [some (.ref 72), some (.int x1), some (.int x2), some (.int x3), some (.int x4)] [] h (qI (fun _ h' => wS h' ∧ hk h0 h' ∧ IV h'))) ∧
    (∀ (h0 h : aH) (x1 : Int32) (x2 : Int32) (x3 : Int32) (u4 : Option Value), wS h → hk h0 h → IV h → Pt n X zM286 112 [some (.ref 72), some (.int x1), some (.int x2), some (.int x3), u4] [] h (qI (fun _ h' => wS h' ∧ hk h0 h' ∧ IV h'))) := by
  intro n
  induction n with
  | zero => refine ⟨?_, ?_, ?_, ?_, ?_⟩ <;> (intros; exact pt_z)
  | succ n ih =>
    obtain ⟨ih286_0, ih286_2, ih286_50, ih286_106, ih286_112⟩ := ih
    refine ⟨?_, ?_, ?_, ?_, ?_⟩
    · intro h0 h x1 x2 S G I
      obtain ⟨a1, z1⟩ : ∃ a : Int, x1.toInt = a := ⟨_, rfl⟩
      obtain ⟨a2, z2⟩ : ∃ a : Int, x2.toInt = a := ⟨_, rfl⟩
      refine pt_iconst gx286_0 (fun v1001 h1001 => ?_)
      refine pt_d (pt_1 (fun n d => r_istoren (L' := [some (.ref 72), some (.int x1), some (.int x2), some (.int v1001), none]) gx286_1 rfl rfl) ?_)
      exact ih286_2 h0 h x1 x2 v1001 _ S G I
    · intro h0 h x1 x2 x3 u4 S G I
      obtain ⟨a1, z1⟩ : ∃ a : Int, x1.toInt = a := ⟨_, rfl⟩
      obtain ⟨a2, z2⟩ : ∃ a : Int, x2.toInt = a := ⟨_, rfl⟩
      obtain ⟨a3, z3⟩ : ∃ a : Int, x3.toInt = a := ⟨_, rfl⟩
      refine pt_1 (fun n d => r_iloadn gx286_2 rfl) ?_
      refine pt_d (pt_1 (fun n d => r_aloadn gx286_3 rfl) ?_)
      refine pt_d (pt_getI (B := 19) gx286_4 S (fun v1001 h1001 => ?_))
      refine pt_d (pt_icmp_ge gx286_7 z3 h1001 (fun e1002 => ?_) (fun e1002 => ?_))
      · skip
        refine pt_d (pt_iconst gx286_118 (fun v1003 h1003 => ?_))
        exact pt_d (pt_iret gx286_119 ⟨_, rfl, S, G, I⟩)
      · skip
        refine pt_d (pt_1 (fun n d => r_aloadn gx286_10 rfl) ?_)
        refine pt_d (pt_getR gx286_11 S tr_72_40 ?_)
        refine pt_d (pt_1 (fun n d => r_iloadn gx286_14 rfl) ?_)
        refine pt_d (pt_zald (N' := 300) gx286_15 S tl_103 z3 (fun v1005 p1005 q1005 h1005 => ?_))
        refine pt_d (pt_if_eq gx286_16 h1005 (fun e1006 => ?_) (fun e1006 => ?_))
        · skip
          exact ih286_112 h0 h x1 x2 x3 _ S G I
        · skip
          refine pt_d (pt_1 (fun n d => r_aloadn gx286_19 rfl) ?_)
          refine pt_d (pt_1 (fun n d => r_iloadn gx286_20 rfl) ?_)
          refine pt_d (pt_virt (as := [.int x3]) (r := []) gx286_21 rfl (show zmt[229]? = some zM229 from rfl) rfl rfl rfl rfl (c_229 S z3) (kqP (fun v1007 h1007 => ?_)))
          show Pt _ _ _ 24 _ [.int v1007] _ _
          refine pt_d (pt_1 (fun n d => r_iloadn gx286_24 rfl) ?_)
          refine pt_d (pt_icmp_ne gx286_25 h1007 z2 (fun e1008 => ?_) (fun e1008 => ?_))
          · skip
            exact ih286_112 h0 h x1 x2 x3 _ S G I
          · skip
            refine pt_d (pt_1 (fun n d => r_aloadn gx286_28 rfl) ?_)
            refine pt_d (pt_1 (fun n d => r_aloadn gx286_29 rfl) ?_)
            refine pt_d (pt_getR gx286_30 S tr_72_21 ?_)
            refine pt_d (pt_1 (fun n d => r_iloadn gx286_33 rfl) ?_)
            refine pt_d (pt_iald (N' := 300) gx286_34 S tl_88 z3 (fun v1010 p1010 q1010 h1010 => ?_))
            refine pt_d (pt_1 (fun n d => r_iloadn gx286_35 rfl) ?_)
            refine pt_d (pt_virt (as := [.int v1010, .int x1]) (r := []) gx286_36 rfl (show zmt[285]? = some zM285 from rfl) rfl rfl rfl rfl (wk_285 S h1010 z1 I) (kqI (fun v1011 y1011 h_1011 h1011 P1011 => ?_)))
            have S1011 := P1011.1
            have G1011 := hk_t G P1011.2.1
            have I1011 := P1011.2.2
            show Pt _ _ _ 39 _ [.int v1011] _ _
            refine pt_d (pt_if_eq gx286_39 h1011 (fun e1012 => ?_) (fun e1012 => ?_))
            · skip
              refine pt_d (pt_1 (fun n d => r_iloadn gx286_45 rfl) ?_)
              refine pt_d (pt_iconst gx286_46 (fun v1013 h1013 => ?_))
              refine pt_d (pt_iadd gx286_47 z3 h1013 (fun v1014 h1014 => ?_))
              refine pt_d (pt_1 (fun n d => r_istore (L' := [some (.ref 72), some (.int x1), some (.int x2), some (.int x3), some (.int v1014)]) gx286_48 rfl rfl) ?_)
              exact ih286_50 h0 h_1011 x1 x2 x3 v1014 S1011 G1011 I1011
            · skip
              refine pt_d (pt_1 (fun n d => r_goto gx286_42) ?_)
              exact ih286_112 h0 h_1011 x1 x2 x3 _ S1011 G1011 I1011
    · intro h0 h x1 x2 x3 x4 S G I
      obtain ⟨a1, z1⟩ : ∃ a : Int, x1.toInt = a := ⟨_, rfl⟩
      obtain ⟨a2, z2⟩ : ∃ a : Int, x2.toInt = a := ⟨_, rfl⟩
      obtain ⟨a3, z3⟩ : ∃ a : Int, x3.toInt = a := ⟨_, rfl⟩
      obtain ⟨a4, z4⟩ : ∃ a : Int, x4.toInt = a := ⟨_, rfl⟩
      refine pt_1 (fun n d => r_iload gx286_50 rfl) ?_
      refine pt_d (pt_1 (fun n d => r_aloadn gx286_52 rfl) ?_)
      refine pt_d (pt_getI (B := 19) gx286_53 S (fun v1001 h1001 => ?_))
      refine pt_d (pt_icmp_ge gx286_56 z4 h1001 (fun e1002 => ?_) (fun e1002 => ?_))
      · skip
        exact ih286_112 h0 h x1 x2 x3 _ S G I
      · skip
        refine pt_d (pt_1 (fun n d => r_aloadn gx286_59 rfl) ?_)
        refine pt_d (pt_getR gx286_60 S tr_72_40 ?_)
        refine pt_d (pt_1 (fun n d => r_iload gx286_63 rfl) ?_)
        refine pt_d (pt_zald (N' := 300) gx286_65 S tl_103 z4 (fun v1004 p1004 q1004 h1004 => ?_))
        refine pt_d (pt_if_eq gx286_66 h1004 (fun e1005 => ?_) (fun e1005 => ?_))
        · skip
          exact ih286_106 h0 h x1 x2 x3 x4 S G I
        · skip
          refine pt_d (pt_1 (fun n d => r_aloadn gx286_69 rfl) ?_)
          refine pt_d (pt_1 (fun n d => r_iload gx286_70 rfl) ?_)
          refine pt_d (pt_virt (as := [.int x4]) (r := []) gx286_72 rfl (show zmt[229]? = some zM229 from rfl) rfl rfl rfl rfl (c_229 S z4) (kqP (fun v1006 h1006 => ?_)))
          show Pt _ _ _ 75 _ [.int v1006] _ _
          refine pt_d (pt_1 (fun n d => r_iloadn gx286_75 rfl) ?_)
          refine pt_d (pt_icmp_ne gx286_76 h1006 z2 (fun e1007 => ?_) (fun e1007 => ?_))
          · skip
            exact ih286_106 h0 h x1 x2 x3 x4 S G I
          · skip
            refine pt_d (pt_1 (fun n d => r_aloadn gx286_79 rfl) ?_)
            refine pt_d (pt_1 (fun n d => r_aloadn gx286_80 rfl) ?_)
            refine pt_d (pt_getR gx286_81 S tr_72_21 ?_)
            refine pt_d (pt_1 (fun n d => r_iload gx286_84 rfl) ?_)
            refine pt_d (pt_iald (N' := 300) gx286_86 S tl_88 z4 (fun v1009 p1009 q1009 h1009 => ?_))
            refine pt_d (pt_1 (fun n d => r_iloadn gx286_87 rfl) ?_)
            refine pt_d (pt_virt (as := [.int v1009, .int x1]) (r := []) gx286_88 rfl (show zmt[285]? = some zM285 from rfl) rfl rfl rfl rfl (wk_285 S h1009 z1 I) (kqI (fun v1010 y1010 h_1010 h1010 P1010 => ?_)))
            have S1010 := P1010.1
            have G1010 := hk_t G P1010.2.1
            have I1010 := P1010.2.2
            show Pt _ _ _ 91 _ [.int v1010] _ _
            refine pt_d (pt_if_ne gx286_91 h1010 (fun e1011 => ?_) (fun e1011 => ?_))
            · skip
              exact ih286_106 h0 h_1010 x1 x2 x3 x4 S1010 G1010 I1010
            · skip
              refine pt_d (pt_1 (fun n d => r_aloadn gx286_94 rfl) ?_)
              refine pt_d (pt_1 (fun n d => r_iloadn gx286_95 rfl) ?_)
              refine pt_d (pt_1 (fun n d => r_iload gx286_96 rfl) ?_)
              refine pt_d (pt_virt (as := [.int x3, .int x4]) (r := []) gx286_98 rfl (show zmt[283]? = some zM283 from rfl) rfl rfl rfl rfl (wk_283 S1010 z3 z4 I1010) (kqI (fun v1012 y1012 h_1012 h1012 P1012 => ?_)))
              have S1012 := P1012.1
              have G1012 := hk_t G1010 P1012.2.1
              have I1012 := P1012.2.2
              show Pt _ _ _ 101 _ [.int v1012] _ _
              refine pt_d (pt_if_eq gx286_101 h1012 (fun e1013 => ?_) (fun e1013 => ?_))
              · skip
                exact ih286_106 h0 h_1012 x1 x2 x3 x4 S1012 G1012 I1012
              · skip
                refine pt_d (pt_iconst gx286_104 (fun v1014 h1014 => ?_))
                exact pt_d (pt_iret gx286_105 ⟨_, rfl, S1012, G1012, I1012⟩)
    · intro h0 h x1 x2 x3 x4 S G I
      obtain ⟨a1, z1⟩ : ∃ a : Int, x1.toInt = a := ⟨_, rfl⟩
      obtain ⟨a2, z2⟩ : ∃ a : Int, x2.toInt = a := ⟨_, rfl⟩
      obtain ⟨a3, z3⟩ : ∃ a : Int, x3.toInt = a := ⟨_, rfl⟩
      obtain ⟨a4, z4⟩ : ∃ a : Int, x4.toInt = a := ⟨_, rfl⟩
      refine pt_iinc (c := 1) gx286_106 rfl z4 (fun v1001 h1001 => ?_)
      show Pt _ _ _ _ [some (.ref 72), some (.int x1), some (.int x2), some (.int x3), some (.int v1001)] [] _ _
      refine pt_d (pt_1 (fun n d => r_goto gx286_109) ?_)
      exact ih286_50 h0 h x1 x2 x3 v1001 S G I
    · intro h0 h x1 x2 x3 u4 S G I
      obtain ⟨a1, z1⟩ : ∃ a : Int, x1.toInt = a := ⟨_, rfl⟩
      obtain ⟨a2, z2⟩ : ∃ a : Int, x2.toInt = a := ⟨_, rfl⟩
      obtain ⟨a3, z3⟩ : ∃ a : Int, x3.toInt = a := ⟨_, rfl⟩
      refine pt_iinc (c := 1) gx286_112 rfl z3 (fun v1001 h1001 => ?_)
      show Pt _ _ _ _ [some (.ref 72), some (.int x1), some (.int x2), some (.int v1001), u4] [] _ _
      refine pt_d (pt_1 (fun n d => r_goto gx286_115) ?_)
      exact ih286_2 h0 h x1 x2 v1001 _ S G I
theorem wk_286 {n : Nat} {X : aX} {h : aH} {x1 : Int32} {x2 : Int32} {a1 : Int} {a2 : Int} (S : wS h) (z1 : x1.toInt = a1) (z2 : x2.toInt = a2) (I : IV h) : Pt n X zM286 0 [some (.ref 72), some (.int x1), some (.int x2), none, none] [] h (qI (fun _ h' => wS h' ∧ hk h h' ∧ IV h')) := (wl_286 n).1 h h x1 x2 S (hk_r h) I
theorem wl_287 {X : aX} : ∀ n : Nat, (∀ (h0 h : aH) (x0 : Int32), wS h → hk h0 h → IV h → Pt n X zM287 0 [some (.int x0), none, none] [] h (qI (fun _ h' => wS h' ∧ hk h0 h' ∧ IV h'))) ∧
    (∀ (h0 h : aH) (x0 : Int32) (x1 : Int32) (x2 : Int32), wS h → hk h0 h → IV h → Pt n X zM287 4 [some (.int x0), some (.int x1), some (.int x2)] [] h (qI (fun _ h' => wS h' ∧ hk h0 h' ∧ IV h'))) := by
  intro n
  induction n with
  | zero => refine ⟨?_, ?_⟩ <;> (intros; exact pt_z)
  | succ n ih =>
    obtain ⟨ih287_0, ih287_4⟩ := ih
    refine ⟨?_, ?_⟩
    · intro h0 h x0 S G I
      obtain ⟨a0, z0⟩ : ∃ a : Int, x0.toInt = a := ⟨_, rfl⟩
      refine pt_iconst gx287_0 (fun v1001 h1001 => ?_)
      refine pt_d (pt_1 (fun n d => r_istoren (L' := [some (.int x0), some (.int v1001), none]) gx287_1 rfl rfl) ?_)
      refine pt_d (pt_1 (fun n d => r_iloadn gx287_2 rfl) ?_)
      refine pt_d (pt_1 (fun n d => r_istoren (L' := [some (.int x0), some (.int v1001), some (.int x0)]) gx287_3 rfl rfl) ?_)
      exact ih287_4 h0 h x0 v1001 x0 S G I
    · intro h0 h x0 x1 x2 S G I
      obtain ⟨a0, z0⟩ : ∃ a : Int, x0.toInt = a := ⟨_, rfl⟩
      obtain ⟨a1, z1⟩ : ∃ a : Int, x1.toInt = a := ⟨_, rfl⟩
      obtain ⟨a2, z2⟩ : ∃ a : Int, x2.toInt = a := ⟨_, rfl⟩
      refine pt_1 (fun n d => r_iloadn gx287_4 rfl) ?_
      refine pt_d (pt_if_eq gx287_5 z2 (fun e1001 => ?_) (fun e1001 => ?_))
      · skip
        refine pt_d (pt_1 (fun n d => r_iloadn gx287_20 rfl) ?_)
        exact pt_d (pt_iret gx287_21 ⟨_, rfl, S, G, I⟩)
      · skip
        refine pt_d (pt_iinc (c := 1) gx287_8 rfl z1 (fun v1002 h1002 => ?_))
        show Pt _ _ _ _ [some (.int x0), some (.int v1002), some (.int x2)] [] _ _
        refine pt_d (pt_1 (fun n d => r_iloadn gx287_11 rfl) ?_)
        refine pt_d (pt_1 (fun n d => r_iloadn gx287_12 rfl) ?_)
        refine pt_d (pt_iconst gx287_13 (fun v1003 h1003 => ?_))
        refine pt_d (pt_isub gx287_14 z2 h1003 (fun v1004 h1004 => ?_))
        refine pt_d (pt_iand gx287_15 z2 h1004 (fun v1005 h1005 => ?_))
        refine pt_d (pt_1 (fun n d => r_istoren (L' := [some (.int x0), some (.int v1002), some (.int v1005)]) gx287_16 rfl rfl) ?_)
        refine pt_d (pt_1 (fun n d => r_goto gx287_17) ?_)
        exact ih287_4 h0 h x0 v1002 v1005 S G I
theorem wk_287 {n : Nat} {X : aX} {h : aH} {x0 : Int32} {a0 : Int} (S : wS h) (z0 : x0.toInt = a0) (I : IV h) : Pt n X zM287 0 [some (.int x0), none, none] [] h (qI (fun _ h' => wS h' ∧ hk h h' ∧ IV h')) := (wl_287 n).1 h h x0 S (hk_r h) I
theorem wl_288 {X : aX} : ∀ n : Nat, (∀ (h0 h : aH) (x1 : Int32), wS h → hk h0 h → IV h → Pt n X zM288 0 [some (.ref 72), some (.int x1), none, none, none, none, none, none] [] h (qI (fun _ h' => wS h' ∧ hk h0 h' ∧ IV h'))) ∧
    (∀ (h0 h : aH) (x1 : Int32) (x2 : Int32) (x3 : Int32), wS h → hk h0 h → IV h → Pt n X zM288 21 [some (.ref 72), some (.int x1), some (.int x2), some (.int x3), none, none, none, none] [] h (qI (fun _ h' => wS h' ∧ hk h0 h' ∧ IV h'))) ∧
    (∀ (h0 h : aH) (x1 : Int32) (x2 : Int32) (x3 : Int32) (xs0 : Int32), wS h → hk h0 h → IV h → Pt n X zM288 51 [some (.ref 72), some (.int x1), some (.int x2), some (.int x3), none, none, none, none] [.int xs0] h (qI (fun _ h' => wS h' ∧ hk h0 h' ∧ IV h'))) ∧
    (∀ (h0 h : aH) (x1 : Int32) (x2 : Int32) (x3 : Int32) (xs0 : Int32) (xs1 : Int32), wS h → hk h0 h → IV h → Pt n X zM288 52 [some (.ref 72), some (.int x1), some (.int x2), some (.int x3), none, none, none, none] [.int xs1, .int xs0] h (qI (fun _ h' => wS h' ∧ hk h0 h' ∧ IV h'))) ∧
    (∀ (h0 h : aH) (x1 : Int32) (x2 : Int32) (x3 : Int32), wS h → hk h0 h → IV h → Pt n X zM288 76 [some (.ref 72), some (.int x1), some (.int x2), some (.int x3), none, none, none, none] [] h (qI (fun _ h' => wS h' ∧ hk h0 h' ∧ IV h'))) ∧
    (∀ (h0 h : aH) (x1 : Int32) (x2 : Int32) (x3 : Int32), wS h → hk h0 h → IV h → Pt n X zM288 124 [some (.ref 72), some (.int x1), some (.int x2), some (.int x3), none, none, none, none] [] h (qI (fun _ h' => wS h' ∧ hk h0 h' ∧ IV h'))) ∧
    (∀ (h0 h : aH) (x1 : Int32) (x2 : Int32) (x3 : Int32) (x4 : Int32) (x5 : Int32) (u6 : Option Value) (u7 : Option Value), wS h → hk h0 h → IV h → Pt n X zM288 138 [some (.ref 72), some (.int x1), some (.int x2), some (.int x3), some (.int x4), some (.int x5), u6, u7] [] h (qI (fun _ h' => wS h' ∧ hk h0 h' ∧ IV h'))) ∧
    (∀ (h0 h : aH) (x1 : Int32) (x2 : Int32) (x3 : Int32) (x4 : Int32) (x5 : Int32) (x6 : Int32) (x7 : Int32), wS h → hk h0 h → IV h → Pt n X zM288 155 [some (.ref 72), some (.int x1), some (.int x2), some (.int x3), some (.int x4), some (.int x5), some (.int x6), some (.int x7)] [] h (qI (fun _ h' => wS h' ∧ hk h0 h' ∧ IV h'))) ∧
    (∀ (h0 h : aH) (x1 : Int32) (x2 : Int32) (x3 : Int32) (x4 : Int32) (x5 : Int32) (x6 : Int32) (x7 : Int32) (xs0 : Int32) (xs1 : Int32), wS h → hk h0 h → IV h → Pt n X zM288 193 [some (.ref 72), some (.int x1), some (.int x2), some (.int x3), some (.int x4), some (.int x5), some (.int x6), some (.int x7)] [.int xs1, .int xs0] h (qI (fun _ h' => wS h' ∧ hk h0 h' ∧ IV h'))) ∧
    (∀ (h0 h : aH) (x1 : Int32) (x2 : Int32) (x3 : Int32) (x4 : Int32) (x5 : Int32) (x6 : Int32) (x7 : Int32), wS h → hk h0 h → IV h → Pt n X zM288 232 [some (.ref 72), some (.int x1), some (.int x2), some (.int x3), some (.int x4), some (.int x5), some (.int x6), some (.int x7)] [] h (qI (fun _ h' => wS h' ∧ hk h0 h' ∧ IV h'))) ∧
    (∀ (h0 h : aH) (x1 : Int32) (x2 : Int32) (x3 : Int32) (x4 : Int32) (x5 : Int32) (x6 : Int32) (x7 : Int32), wS h → hk h0 h → IV h → Pt n X zM288 252 [some (.ref 72), some (.int x1), some (.int x2), some (.int x3), some (.int x4), some (.int x5), some (.int x6), some (.int x7)] [] h (qI (fun _ h' => wS h' ∧ hk h0 h' ∧ IV h'))) ∧
    (∀ (h0 h : aH) (x1 : Int32) (x2 : Int32) (x3 : Int32) (x4 : Int32) (x5 : Int32) (u6 : Option Value) (u7 : Option Value), wS h → hk h0 h → IV h → Pt n X zM288 266 [some (.ref 72), some (.int x1), some (.int x2), some (.int x3), some (.int x4), some (.int x5), u6, u7] [] h (qI (fun _ h' => wS h' ∧ hk h0 h' ∧ IV h'))) ∧
    (∀ (h0 h : aH) (x1 : Int32) (x2 : Int32) (x3 : Int32) (x4 : Int32) (x5 : Int32) (u6 : Option Value) (u7 : Option Value), wS h → hk h0 h → IV h → Pt n X zM288 313 [some (.ref 72), some (.int x1), some (.int x2), some (.int x3), some (.int x4), some (.int x5), u6, u7] [] h (qI (fun _ h' => wS h' ∧ hk h0 h' ∧ IV h'))) := by
  intro n
  induction n with
  | zero => refine ⟨?_, ?_, ?_, ?_, ?_, ?_, ?_, ?_, ?_, ?_, ?_, ?_, ?_⟩ <;> (intros; exact pt_z)
  | succ n ih =>
    obtain ⟨ih288_0, ih288_21, ih288_51, ih288_52, ih288_76, ih288_124, ih288_138, ih288_155, ih288_193, ih288_232, ih288_252, ih288_266, ih288_313⟩ := ih
    refine ⟨?_, ?_, ?_, ?_, ?_, ?_, ?_, ?_, ?_, ?_, ?_, ?_, ?_⟩
    · intro h0 h x1 S G I
      obtain ⟨a1, z1⟩ : ∃ a : Int, x1.toInt = a := ⟨_, rfl⟩
      refine pt_1 (fun n d => r_iloadn gx288_0 rfl) ?_
      refine pt_d (pt_stat (as := [.int x1]) (r := []) gx288_1 rfl (show zmt[198]? = some zM198 from rfl) rfl rfl rfl rfl (c_198 S z1) (kqP (fun v1001 h1001 => ?_)))
      show Pt _ _ _ 4 _ [.int v1001] _ _
      refine pt_d (pt_ifB_ne gx288_4 h1001 (fun e1002 => ?_) (fun e1002 => ?_))
      · skip
        refine pt_d (pt_1 (fun n d => r_aloadn gx288_9 rfl) ?_)
        refine pt_d (pt_1 (fun n d => r_aloadn gx288_10 rfl) ?_)
        refine pt_d (pt_getI (B := 1) gx288_11 S (fun v1003 h1003 => ?_))
        refine pt_d (pt_virt (as := [.int v1003]) (r := []) gx288_14 rfl (show zmt[239]? = some zM239 from rfl) rfl rfl rfl rfl (wk_239 S h1003 I) (kqN (fun h_1004 P1004 => ?_)))
        have S1004 := P1004.1
        have G1004 := hk_t G P1004.2.1
        have I1004 := P1004.2.2
        show Pt _ _ _ 17 _ [] _ _
        refine pt_d (pt_iconst gx288_17 (fun v1005 h1005 => ?_))
        refine pt_d (pt_1 (fun n d => r_istoren (L' := [some (.ref 72), some (.int x1), some (.int v1005), none, none, none, none, none]) gx288_18 rfl rfl) ?_)
        refine pt_d (pt_iconst gx288_19 (fun v1006 h1006 => ?_))
        refine pt_d (pt_1 (fun n d => r_istoren (L' := [some (.ref 72), some (.int x1), some (.int v1005), some (.int v1006), none, none, none, none]) gx288_20 rfl rfl) ?_)
        exact ih288_21 h0 h_1004 x1 v1005 v1006 S1004 G1004 I1004
      · skip
        refine pt_d (pt_iconst gx288_7 (fun v1007 h1007 => ?_))
        exact pt_d (pt_iret gx288_8 ⟨_, rfl, S, G, I⟩)
    · intro h0 h x1 x2 x3 S G I
      obtain ⟨a1, z1⟩ : ∃ a : Int, x1.toInt = a := ⟨_, rfl⟩
      obtain ⟨a2, z2⟩ : ∃ a : Int, x2.toInt = a := ⟨_, rfl⟩
      obtain ⟨a3, z3⟩ : ∃ a : Int, x3.toInt = a := ⟨_, rfl⟩
      refine pt_1 (fun n d => r_iloadn gx288_21 rfl) ?_
      refine pt_d (pt_1 (fun n d => r_aloadn gx288_22 rfl) ?_)
      refine pt_d (pt_getI (B := 2) gx288_23 S (fun v1001 h1001 => ?_))
      refine pt_d (pt_icmp_ge gx288_26 z3 h1001 (fun e1002 => ?_) (fun e1002 => ?_))
      · skip
        refine pt_d (pt_1 (fun n d => r_iloadn gx288_60 rfl) ?_)
        refine pt_d (pt_bipush gx288_61 (fun v1003 h1003 => ?_))
        refine pt_d (pt_icmp_le gx288_63 z2 h1003 (fun e1004 => ?_) (fun e1004 => ?_))
        · skip
          refine pt_d (pt_1 (fun n d => r_aloadn gx288_69 rfl) ?_)
          refine pt_d (pt_iconst gx288_70 (fun v1005 h1005 => ?_))
          refine pt_d (pt_putIh (B := 79) gx288_71 S h1005 (fun h_1006 S1006 e1006 K1006 => ?_))
          have G1006 := hk_t G K1006
          have I1006 := IV_uf I K1006 e1006 (by decide)
          refine pt_d (pt_iconst gx288_74 (fun v1007 h1007 => ?_))
          refine pt_d (pt_1 (fun n d => r_istoren (L' := [some (.ref 72), some (.int x1), some (.int x2), some (.int v1007), none, none, none, none]) gx288_75 rfl rfl) ?_)
          exact ih288_76 h0 h_1006 x1 x2 v1007 S1006 G1006 I1006
        · skip
          refine pt_d (pt_bipush gx288_66 (fun v1008 h1008 => ?_))
          exact pt_d (pt_iret gx288_68 ⟨_, rfl, S, G, I⟩)
      · skip
        refine pt_d (pt_1 (fun n d => r_iloadn gx288_29 rfl) ?_)
        refine pt_d (pt_1 (fun n d => r_aloadn gx288_30 rfl) ?_)
        refine pt_d (pt_1 (fun n d => r_iloadn gx288_31 rfl) ?_)
        refine pt_d (pt_virt (as := [.int x3]) (r := [.int x2]) gx288_32 rfl (show zmt[203]? = some zM203 from rfl) rfl rfl rfl rfl (c_203 S z3) (kqP (fun v1009 h1009 => ?_)))
        show Pt _ _ _ 35 _ [.int v1009, .int x2] _ _
        refine pt_d (pt_ifB_eq gx288_35 h1009 (fun e1010 => ?_) (fun e1010 => ?_))
        · skip
          exact ih288_51 h0 h x1 x2 x3 x2 S G I
        · skip
          refine pt_d (pt_1 (fun n d => r_aloadn gx288_38 rfl) ?_)
          refine pt_d (pt_1 (fun n d => r_iloadn gx288_39 rfl) ?_)
          refine pt_d (pt_1 (fun n d => r_iloadn gx288_40 rfl) ?_)
          refine pt_d (pt_virt (as := [.int x3, .int x1]) (r := [.int x2]) gx288_41 rfl (show zmt[284]? = some zM284 from rfl) rfl rfl rfl rfl (wk_284 S z3 z1 I) (kqI (fun v1011 y1011 h_1011 h1011 P1011 => ?_)))
          have S1011 := P1011.1
          have G1011 := hk_t G P1011.2.1
          have I1011 := P1011.2.2
          show Pt _ _ _ 44 _ [.int v1011, .int x2] _ _
          refine pt_d (pt_if_eq gx288_44 h1011 (fun e1012 => ?_) (fun e1012 => ?_))
          · skip
            exact ih288_51 h0 h_1011 x1 x2 x3 x2 S1011 G1011 I1011
          · skip
            refine pt_d (pt_iconst gx288_47 (fun v1013 h1013 => ?_))
            refine pt_d (pt_1 (fun n d => r_goto gx288_48) ?_)
            exact ih288_52 h0 h_1011 x1 x2 x3 x2 v1013 S1011 G1011 I1011
    · intro h0 h x1 x2 x3 xs0 S G I
      obtain ⟨a1, z1⟩ : ∃ a : Int, x1.toInt = a := ⟨_, rfl⟩
      obtain ⟨a2, z2⟩ : ∃ a : Int, x2.toInt = a := ⟨_, rfl⟩
      obtain ⟨a3, z3⟩ : ∃ a : Int, x3.toInt = a := ⟨_, rfl⟩
      obtain ⟨as0, zs0⟩ : ∃ a : Int, xs0.toInt = a := ⟨_, rfl⟩
      refine pt_iconst gx288_51 (fun v1001 h1001 => ?_)
      exact ih288_52 h0 h x1 x2 x3 xs0 v1001 S G I
    · intro h0 h x1 x2 x3 xs0 xs1 S G I
      obtain ⟨a1, z1⟩ : ∃ a : Int, x1.toInt = a := ⟨_, rfl⟩
      obtain ⟨a2, z2⟩ : ∃ a : Int, x2.toInt = a := ⟨_, rfl⟩
      obtain ⟨a3, z3⟩ : ∃ a : Int, x3.toInt = a := ⟨_, rfl⟩
      obtain ⟨as0, zs0⟩ : ∃ a : Int, xs0.toInt = a := ⟨_, rfl⟩
      obtain ⟨as1, zs1⟩ : ∃ a : Int, xs1.toInt = a := ⟨_, rfl⟩
      refine pt_iadd gx288_52 zs0 zs1 (fun v1001 h1001 => ?_)
      refine pt_d (pt_1 (fun n d => r_istoren (L' := [some (.ref 72), some (.int x1), some (.int v1001), some (.int x3), none, none, none, none]) gx288_53 rfl rfl) ?_)
      refine pt_d (pt_iinc (c := 1) gx288_54 rfl z3 (fun v1002 h1002 => ?_))
      show Pt _ _ _ _ [some (.ref 72), some (.int x1), some (.int v1001), some (.int v1002), none, none, none, none] [] _ _
      refine pt_d (pt_1 (fun n d => r_goto gx288_57) ?_)
      exact ih288_21 h0 h x1 v1001 v1002 S G I
    · intro h0 h x1 x2 x3 S G I
      obtain ⟨a1, z1⟩ : ∃ a : Int, x1.toInt = a := ⟨_, rfl⟩
      obtain ⟨a2, z2⟩ : ∃ a : Int, x2.toInt = a := ⟨_, rfl⟩
      obtain ⟨a3, z3⟩ : ∃ a : Int, x3.toInt = a := ⟨_, rfl⟩
      refine pt_1 (fun n d => r_iloadn gx288_76 rfl) ?_
      refine pt_d (pt_1 (fun n d => r_aloadn gx288_77 rfl) ?_)
      refine pt_d (pt_getI (B := 2) gx288_78 S (fun v1001 h1001 => ?_))
      refine pt_d (pt_icmp_ge gx288_81 z3 h1001 (fun e1002 => ?_) (fun e1002 => ?_))
      · skip
        refine pt_d (pt_iconst gx288_130 (fun v1003 h1003 => ?_))
        refine pt_d (pt_1 (fun n d => r_istoren (L' := [some (.ref 72), some (.int x1), some (.int x2), some (.int v1003), none, none, none, none]) gx288_131 rfl rfl) ?_)
        refine pt_d (pt_iconst gx288_132 (fun v1004 h1004 => ?_))
        refine pt_d (pt_1 (fun n d => r_istore (L' := [some (.ref 72), some (.int x1), some (.int x2), some (.int v1003), some (.int v1004), none, none, none]) gx288_133 rfl rfl) ?_)
        refine pt_d (pt_iconst gx288_135 (fun v1005 h1005 => ?_))
        refine pt_d (pt_1 (fun n d => r_istore (L' := [some (.ref 72), some (.int x1), some (.int x2), some (.int v1003), some (.int v1004), some (.int v1005), none, none]) gx288_136 rfl rfl) ?_)
        exact ih288_138 h0 h x1 x2 v1003 v1004 v1005 _ _ S G I
      · skip
        refine pt_d (pt_1 (fun n d => r_aloadn gx288_84 rfl) ?_)
        refine pt_d (pt_1 (fun n d => r_iloadn gx288_85 rfl) ?_)
        refine pt_d (pt_virt (as := [.int x3]) (r := []) gx288_86 rfl (show zmt[203]? = some zM203 from rfl) rfl rfl rfl rfl (c_203 S z3) (kqP (fun v1006 h1006 => ?_)))
        show Pt _ _ _ 89 _ [.int v1006] _ _
        refine pt_d (pt_ifB_eq gx288_89 h1006 (fun e1007 => ?_) (fun e1007 => ?_))
        · skip
          exact ih288_124 h0 h x1 x2 x3 S G I
        · skip
          refine pt_d (pt_1 (fun n d => r_aloadn gx288_92 rfl) ?_)
          refine pt_d (pt_1 (fun n d => r_iloadn gx288_93 rfl) ?_)
          refine pt_d (pt_1 (fun n d => r_iloadn gx288_94 rfl) ?_)
          refine pt_d (pt_virt (as := [.int x3, .int x1]) (r := []) gx288_95 rfl (show zmt[284]? = some zM284 from rfl) rfl rfl rfl rfl (wk_284 S z3 z1 I) (kqI (fun v1008 y1008 h_1008 h1008 P1008 => ?_)))
          have S1008 := P1008.1
          have G1008 := hk_t G P1008.2.1
          have I1008 := P1008.2.2
          show Pt _ _ _ 98 _ [.int v1008] _ _
          refine pt_d (pt_if_ne gx288_98 h1008 (fun e1009 => ?_) (fun e1009 => ?_))
          · skip
            refine pt_d (pt_1 (fun n d => r_aloadn gx288_104 rfl) ?_)
            refine pt_d (pt_getR gx288_105 S1008 tr_72_80 ?_)
            refine pt_d (pt_1 (fun n d => r_aloadn gx288_108 rfl) ?_)
            refine pt_d (pt_getI (B := 79) gx288_109 S1008 (fun v1011 h1011 => ?_))
            refine pt_d (pt_1 (fun n d => r_iloadn gx288_112 rfl) ?_)
            refine pt_d (pt_iasth (N' := 10) gx288_113 S1008 tl_132 h1011 z3 (fun h_1012 S1012 p1012 q1012 e1012 K1012 => ?_))
            have G1012 := hk_t G1008 K1012
            have I1012 := IV_ua I1008 K1012 e1012 (by decide)
            refine pt_d (pt_1 (fun n d => r_aloadn gx288_114 rfl) ?_)
            refine pt_d (pt_1 (fun n d => r_dup gx288_115 rfl) ?_)
            refine pt_d (pt_getI (B := 79) gx288_116 S1012 (fun v1013 h1013 => ?_))
            have h1013 : v1013.toInt = vw h_1008 72 79 := by rw [h1013, e1012, up_c (by decide)]
            refine pt_d (pt_iconst gx288_119 (fun v1014 h1014 => ?_))
            refine pt_d (pt_iadd gx288_120 h1013 h1014 (fun v1015 h1015 => ?_))
            refine pt_d (pt_putIh (B := 79) gx288_121 S1012 h1015 (fun h_1016 S1016 e1016 K1016 => ?_))
            have G1016 := hk_t G1012 K1016
            have I1016 := IV_uf I1012 K1016 e1016 (by decide)
            exact ih288_124 h0 h_1016 x1 x2 x3 S1016 G1016 I1016
          · skip
            refine pt_d (pt_1 (fun n d => r_goto gx288_101) ?_)
            exact ih288_124 h0 h_1008 x1 x2 x3 S1008 G1008 I1008
    · intro h0 h x1 x2 x3 S G I
      obtain ⟨a1, z1⟩ : ∃ a : Int, x1.toInt = a := ⟨_, rfl⟩
      obtain ⟨a2, z2⟩ : ∃ a : Int, x2.toInt = a := ⟨_, rfl⟩
      obtain ⟨a3, z3⟩ : ∃ a : Int, x3.toInt = a := ⟨_, rfl⟩
      refine pt_iinc (c := 1) gx288_124 rfl z3 (fun v1001 h1001 => ?_)
      show Pt _ _ _ _ [some (.ref 72), some (.int x1), some (.int x2), some (.int v1001), none, none, none, none] [] _ _
      refine pt_d (pt_1 (fun n d => r_goto gx288_127) ?_)
      exact ih288_76 h0 h x1 x2 v1001 S G I
    · intro h0 h x1 x2 x3 x4 x5 u6 u7 S G I
      obtain ⟨a1, z1⟩ : ∃ a : Int, x1.toInt = a := ⟨_, rfl⟩
      obtain ⟨a2, z2⟩ : ∃ a : Int, x2.toInt = a := ⟨_, rfl⟩
      obtain ⟨a3, z3⟩ : ∃ a : Int, x3.toInt = a := ⟨_, rfl⟩
      obtain ⟨a4, z4⟩ : ∃ a : Int, x4.toInt = a := ⟨_, rfl⟩
      obtain ⟨a5, z5⟩ : ∃ a : Int, x5.toInt = a := ⟨_, rfl⟩
      refine pt_1 (fun n d => r_iload gx288_138 rfl) ?_
      refine pt_d (pt_iconst gx288_140 (fun v1001 h1001 => ?_))
      refine pt_d (pt_1 (fun n d => r_aloadn gx288_141 rfl) ?_)
      refine pt_d (pt_getI (B := 79) gx288_142 S (fun v1002 h1002 => ?_))
      refine pt_d (pt_ishl gx288_145 h1001 h1002 (fun v1003 h1003 => ?_))
      refine pt_d (pt_icmp_ge gx288_146 z5 h1003 (fun e1004 => ?_) (fun e1004 => ?_))
      · skip
        refine pt_d (pt_1 (fun n d => r_aloadn gx288_258 rfl) ?_)
        refine pt_d (pt_iconst gx288_259 (fun v1005 h1005 => ?_))
        refine pt_d (pt_putIh (B := 81) gx288_260 S h1005 (fun h_1006 S1006 e1006 K1006 => ?_))
        have G1006 := hk_t G K1006
        have I1006 := IV_uf I K1006 e1006 (by decide)
        refine pt_d (pt_iconst gx288_263 (fun v1007 h1007 => ?_))
        refine pt_d (pt_1 (fun n d => r_istore (L' := [some (.ref 72), some (.int x1), some (.int x2), some (.int x3), some (.int x4), some (.int v1007), u6, u7]) gx288_264 rfl rfl) ?_)
        exact ih288_266 h0 h_1006 x1 x2 x3 x4 v1007 _ _ S1006 G1006 I1006
      · skip
        refine pt_d (pt_iconst gx288_149 (fun v1008 h1008 => ?_))
        refine pt_d (pt_1 (fun n d => r_istore (L' := [some (.ref 72), some (.int x1), some (.int x2), some (.int x3), some (.int x4), some (.int x5), some (.int v1008), u7]) gx288_150 rfl rfl) ?_)
        refine pt_d (pt_iconst gx288_152 (fun v1009 h1009 => ?_))
        refine pt_d (pt_1 (fun n d => r_istore (L' := [some (.ref 72), some (.int x1), some (.int x2), some (.int x3), some (.int x4), some (.int x5), some (.int v1008), some (.int v1009)]) gx288_153 rfl rfl) ?_)
        exact ih288_155 h0 h x1 x2 x3 x4 x5 v1008 v1009 S G I
    · intro h0 h x1 x2 x3 x4 x5 x6 x7 S G I
      obtain ⟨a1, z1⟩ : ∃ a : Int, x1.toInt = a := ⟨_, rfl⟩
      obtain ⟨a2, z2⟩ : ∃ a : Int, x2.toInt = a := ⟨_, rfl⟩
      obtain ⟨a3, z3⟩ : ∃ a : Int, x3.toInt = a := ⟨_, rfl⟩
      obtain ⟨a4, z4⟩ : ∃ a : Int, x4.toInt = a := ⟨_, rfl⟩
      obtain ⟨a5, z5⟩ : ∃ a : Int, x5.toInt = a := ⟨_, rfl⟩
      obtain ⟨a6, z6⟩ : ∃ a : Int, x6.toInt = a := ⟨_, rfl⟩
      obtain ⟨a7, z7⟩ : ∃ a : Int, x7.toInt = a := ⟨_, rfl⟩
      refine pt_1 (fun n d => r_iload gx288_155 rfl) ?_
      refine pt_d (pt_1 (fun n d => r_aloadn gx288_157 rfl) ?_)
      refine pt_d (pt_getI (B := 79) gx288_158 S (fun v1001 h1001 => ?_))
      refine pt_d (pt_icmp_ge gx288_161 z7 h1001 (fun e1002 => ?_) (fun e1002 => ?_))
      · skip
        refine pt_d (pt_1 (fun n d => r_iloadn gx288_202 rfl) ?_)
        refine pt_d (pt_if_lt gx288_203 z3 (fun e1003 => ?_) (fun e1003 => ?_))
        · skip
          exact ih288_232 h0 h x1 x2 x3 x4 x5 x6 x7 S G I
        · skip
          refine pt_d (pt_1 (fun n d => r_iload gx288_206 rfl) ?_)
          refine pt_d (pt_1 (fun n d => r_iload gx288_208 rfl) ?_)
          refine pt_d (pt_icmp_gt gx288_210 z6 z4 (fun e1004 => ?_) (fun e1004 => ?_))
          · skip
            exact ih288_252 h0 h x1 x2 x3 x4 x5 x6 x7 S G I
          · skip
            refine pt_d (pt_1 (fun n d => r_iload gx288_213 rfl) ?_)
            refine pt_d (pt_1 (fun n d => r_iload gx288_215 rfl) ?_)
            refine pt_d (pt_icmp_ne gx288_217 z6 z4 (fun e1005 => ?_) (fun e1005 => ?_))
            · skip
              exact ih288_232 h0 h x1 x2 x3 x4 x5 x6 x7 S G I
            · skip
              refine pt_d (pt_1 (fun n d => r_iload gx288_220 rfl) ?_)
              refine pt_d (pt_stat (as := [.int x5]) (r := []) gx288_222 rfl (show zmt[287]? = some zM287 from rfl) rfl rfl rfl rfl (wk_287 S z5 I) (kqI (fun v1006 y1006 h_1006 h1006 P1006 => ?_)))
              have S1006 := P1006.1
              have G1006 := hk_t G P1006.2.1
              have I1006 := P1006.2.2
              show Pt _ _ _ 225 _ [.int v1006] _ _
              refine pt_d (pt_1 (fun n d => r_iloadn gx288_225 rfl) ?_)
              refine pt_d (pt_stat (as := [.int x3]) (r := [.int v1006]) gx288_226 rfl (show zmt[287]? = some zM287 from rfl) rfl rfl rfl rfl (wk_287 S1006 z3 I1006) (kqI (fun v1007 y1007 h_1007 h1007 P1007 => ?_)))
              have S1007 := P1007.1
              have G1007 := hk_t G1006 P1007.2.1
              have I1007 := P1007.2.2
              show Pt _ _ _ 229 _ [.int v1007, .int v1006] _ _
              refine pt_d (pt_icmp_ge gx288_229 h1006 h1007 (fun e1008 => ?_) (fun e1008 => ?_))
              · skip
                exact ih288_252 h0 h_1007 x1 x2 x3 x4 x5 x6 x7 S1007 G1007 I1007
              · skip
                exact ih288_232 h0 h_1007 x1 x2 x3 x4 x5 x6 x7 S1007 G1007 I1007
      · skip
        refine pt_d (pt_1 (fun n d => r_iload gx288_164 rfl) ?_)
        refine pt_d (pt_1 (fun n d => r_iload gx288_166 rfl) ?_)
        refine pt_d (pt_1 (fun n d => r_iload gx288_168 rfl) ?_)
        refine pt_d (pt_ishr gx288_170 z5 z7 (fun v1009 h1009 => ?_))
        refine pt_d (pt_iconst gx288_171 (fun v1010 h1010 => ?_))
        refine pt_d (pt_iand gx288_172 h1009 h1010 (fun v1011 h1011 => ?_))
        refine pt_d (pt_iconst gx288_173 (fun v1012 h1012 => ?_))
        refine pt_d (pt_icmp_ne gx288_174 h1011 h1012 (fun e1013 => ?_) (fun e1013 => ?_))
        · skip
          refine pt_d (pt_iconst gx288_192 (fun v1014 h1014 => ?_))
          exact ih288_193 h0 h x1 x2 x3 x4 x5 x6 x7 x6 v1014 S G I
        · skip
          refine pt_d (pt_1 (fun n d => r_aloadn gx288_177 rfl) ?_)
          refine pt_d (pt_getR gx288_178 S tr_72_8 ?_)
          refine pt_d (pt_1 (fun n d => r_aloadn gx288_181 rfl) ?_)
          refine pt_d (pt_getR gx288_182 S tr_72_80 ?_)
          refine pt_d (pt_1 (fun n d => r_iload gx288_185 rfl) ?_)
          refine pt_d (pt_iald (N' := 10) gx288_187 S tl_132 z7 (fun v1017 p1017 q1017 h1017 => ?_))
          refine pt_d (pt_iald (N' := 150) gx288_188 S tl_78 h1017 (fun v1018 p1018 q1018 h1018 => ?_))
          refine pt_d (pt_1 (fun n d => r_goto gx288_189) ?_)
          exact ih288_193 h0 h x1 x2 x3 x4 x5 x6 x7 x6 v1018 S G I
    · intro h0 h x1 x2 x3 x4 x5 x6 x7 xs0 xs1 S G I
      obtain ⟨a1, z1⟩ : ∃ a : Int, x1.toInt = a := ⟨_, rfl⟩
      obtain ⟨a2, z2⟩ : ∃ a : Int, x2.toInt = a := ⟨_, rfl⟩
      obtain ⟨a3, z3⟩ : ∃ a : Int, x3.toInt = a := ⟨_, rfl⟩
      obtain ⟨a4, z4⟩ : ∃ a : Int, x4.toInt = a := ⟨_, rfl⟩
      obtain ⟨a5, z5⟩ : ∃ a : Int, x5.toInt = a := ⟨_, rfl⟩
      obtain ⟨a6, z6⟩ : ∃ a : Int, x6.toInt = a := ⟨_, rfl⟩
      obtain ⟨a7, z7⟩ : ∃ a : Int, x7.toInt = a := ⟨_, rfl⟩
      obtain ⟨as0, zs0⟩ : ∃ a : Int, xs0.toInt = a := ⟨_, rfl⟩
      obtain ⟨as1, zs1⟩ : ∃ a : Int, xs1.toInt = a := ⟨_, rfl⟩
      refine pt_iadd gx288_193 zs0 zs1 (fun v1001 h1001 => ?_)
      refine pt_d (pt_1 (fun n d => r_istore (L' := [some (.ref 72), some (.int x1), some (.int x2), some (.int x3), some (.int x4), some (.int x5), some (.int v1001), some (.int x7)]) gx288_194 rfl rfl) ?_)
      refine pt_d (pt_iinc (c := 1) gx288_196 rfl z7 (fun v1002 h1002 => ?_))
      show Pt _ _ _ _ [some (.ref 72), some (.int x1), some (.int x2), some (.int x3), some (.int x4), some (.int x5), some (.int v1001), some (.int v1002)] [] _ _
      refine pt_d (pt_1 (fun n d => r_goto gx288_199) ?_)
      exact ih288_155 h0 h x1 x2 x3 x4 x5 v1001 v1002 S G I
    · intro h0 h x1 x2 x3 x4 x5 x6 x7 S G I
      obtain ⟨a1, z1⟩ : ∃ a : Int, x1.toInt = a := ⟨_, rfl⟩
      obtain ⟨a2, z2⟩ : ∃ a : Int, x2.toInt = a := ⟨_, rfl⟩
      obtain ⟨a3, z3⟩ : ∃ a : Int, x3.toInt = a := ⟨_, rfl⟩
      obtain ⟨a4, z4⟩ : ∃ a : Int, x4.toInt = a := ⟨_, rfl⟩
      obtain ⟨a5, z5⟩ : ∃ a : Int, x5.toInt = a := ⟨_, rfl⟩
      obtain ⟨a6, z6⟩ : ∃ a : Int, x6.toInt = a := ⟨_, rfl⟩
      obtain ⟨a7, z7⟩ : ∃ a : Int, x7.toInt = a := ⟨_, rfl⟩
      refine pt_1 (fun n d => r_aloadn gx288_232 rfl) ?_
      refine pt_d (pt_1 (fun n d => r_iload gx288_233 rfl) ?_)
      refine pt_d (pt_1 (fun n d => r_iloadn gx288_235 rfl) ?_)
      refine pt_d (pt_virt (as := [.int x5, .int x1]) (r := []) gx288_236 rfl (show zmt[286]? = some zM286 from rfl) rfl rfl rfl rfl (wk_286 S z5 z1 I) (kqI (fun v1001 y1001 h_1001 h1001 P1001 => ?_)))
      have S1001 := P1001.1
      have G1001 := hk_t G P1001.2.1
      have I1001 := P1001.2.2
      show Pt _ _ _ 239 _ [.int v1001] _ _
      refine pt_d (pt_if_ne gx288_239 h1001 (fun e1002 => ?_) (fun e1002 => ?_))
      · skip
        refine pt_d (pt_1 (fun n d => r_iload gx288_245 rfl) ?_)
        refine pt_d (pt_1 (fun n d => r_istoren (L' := [some (.ref 72), some (.int x1), some (.int x2), some (.int x5), some (.int x4), some (.int x5), some (.int x6), some (.int x7)]) gx288_247 rfl rfl) ?_)
        refine pt_d (pt_1 (fun n d => r_iload gx288_248 rfl) ?_)
        refine pt_d (pt_1 (fun n d => r_istore (L' := [some (.ref 72), some (.int x1), some (.int x2), some (.int x5), some (.int x6), some (.int x5), some (.int x6), some (.int x7)]) gx288_250 rfl rfl) ?_)
        exact ih288_252 h0 h_1001 x1 x2 x5 x6 x5 x6 x7 S1001 G1001 I1001
      · skip
        refine pt_d (pt_1 (fun n d => r_goto gx288_242) ?_)
        exact ih288_252 h0 h_1001 x1 x2 x3 x4 x5 x6 x7 S1001 G1001 I1001
    · intro h0 h x1 x2 x3 x4 x5 x6 x7 S G I
      obtain ⟨a1, z1⟩ : ∃ a : Int, x1.toInt = a := ⟨_, rfl⟩
      obtain ⟨a2, z2⟩ : ∃ a : Int, x2.toInt = a := ⟨_, rfl⟩
      obtain ⟨a3, z3⟩ : ∃ a : Int, x3.toInt = a := ⟨_, rfl⟩
      obtain ⟨a4, z4⟩ : ∃ a : Int, x4.toInt = a := ⟨_, rfl⟩
      obtain ⟨a5, z5⟩ : ∃ a : Int, x5.toInt = a := ⟨_, rfl⟩
      obtain ⟨a6, z6⟩ : ∃ a : Int, x6.toInt = a := ⟨_, rfl⟩
      obtain ⟨a7, z7⟩ : ∃ a : Int, x7.toInt = a := ⟨_, rfl⟩
      refine pt_iinc (c := 1) gx288_252 rfl z5 (fun v1001 h1001 => ?_)
      show Pt _ _ _ _ [some (.ref 72), some (.int x1), some (.int x2), some (.int x3), some (.int x4), some (.int v1001), some (.int x6), some (.int x7)] [] _ _
      refine pt_d (pt_1 (fun n d => r_goto gx288_255) ?_)
      exact ih288_138 h0 h x1 x2 x3 x4 v1001 _ _ S G I
    · intro h0 h x1 x2 x3 x4 x5 u6 u7 S G I
      obtain ⟨a1, z1⟩ : ∃ a : Int, x1.toInt = a := ⟨_, rfl⟩
      obtain ⟨a2, z2⟩ : ∃ a : Int, x2.toInt = a := ⟨_, rfl⟩
      obtain ⟨a3, z3⟩ : ∃ a : Int, x3.toInt = a := ⟨_, rfl⟩
      obtain ⟨a4, z4⟩ : ∃ a : Int, x4.toInt = a := ⟨_, rfl⟩
      obtain ⟨a5, z5⟩ : ∃ a : Int, x5.toInt = a := ⟨_, rfl⟩
      refine pt_1 (fun n d => r_iload gx288_266 rfl) ?_
      refine pt_d (pt_1 (fun n d => r_aloadn gx288_268 rfl) ?_)
      refine pt_d (pt_getI (B := 79) gx288_269 S (fun v1001 h1001 => ?_))
      refine pt_d (pt_icmp_ge gx288_272 z5 h1001 (fun e1002 => ?_) (fun e1002 => ?_))
      · skip
        refine pt_d (pt_1 (fun n d => r_iload gx288_319 rfl) ?_)
        exact pt_d (pt_iret gx288_321 ⟨_, rfl, S, G, I⟩)
      · skip
        refine pt_d (pt_1 (fun n d => r_iloadn gx288_275 rfl) ?_)
        refine pt_d (pt_1 (fun n d => r_iload gx288_276 rfl) ?_)
        refine pt_d (pt_ishr gx288_278 z3 z5 (fun v1003 h1003 => ?_))
        refine pt_d (pt_iconst gx288_279 (fun v1004 h1004 => ?_))
        refine pt_d (pt_iand gx288_280 h1003 h1004 (fun v1005 h1005 => ?_))
        refine pt_d (pt_if_ne gx288_281 h1005 (fun e1006 => ?_) (fun e1006 => ?_))
        · skip
          refine pt_d (pt_1 (fun n d => r_aloadn gx288_287 rfl) ?_)
          refine pt_d (pt_getR gx288_288 S tr_72_82 ?_)
          refine pt_d (pt_1 (fun n d => r_aloadn gx288_291 rfl) ?_)
          refine pt_d (pt_getI (B := 81) gx288_292 S (fun v1008 h1008 => ?_))
          refine pt_d (pt_1 (fun n d => r_aloadn gx288_295 rfl) ?_)
          refine pt_d (pt_getR gx288_296 S tr_72_80 ?_)
          refine pt_d (pt_1 (fun n d => r_iload gx288_299 rfl) ?_)
          refine pt_d (pt_iald (N' := 10) gx288_301 S tl_132 z5 (fun v1010 p1010 q1010 h1010 => ?_))
          refine pt_d (pt_iasth (N' := 10) gx288_302 S tl_133 h1008 h1010 (fun h_1011 S1011 p1011 q1011 e1011 K1011 => ?_))
          have G1011 := hk_t G K1011
          have I1011 := IV_ua I K1011 e1011 (by decide)
          refine pt_d (pt_1 (fun n d => r_aloadn gx288_303 rfl) ?_)
          refine pt_d (pt_1 (fun n d => r_dup gx288_304 rfl) ?_)
          refine pt_d (pt_getI (B := 81) gx288_305 S1011 (fun v1012 h1012 => ?_))
          have h1012 : v1012.toInt = vw h 72 81 := by rw [h1012, e1011, up_c (by decide)]
          refine pt_d (pt_iconst gx288_308 (fun v1013 h1013 => ?_))
          refine pt_d (pt_iadd gx288_309 h1012 h1013 (fun v1014 h1014 => ?_))
          refine pt_d (pt_putIh (B := 81) gx288_310 S1011 h1014 (fun h_1015 S1015 e1015 K1015 => ?_))
          have G1015 := hk_t G1011 K1015
          have I1015 := IV_uf I1011 K1015 e1015 (by decide)
          exact ih288_313 h0 h_1015 x1 x2 x3 x4 x5 _ _ S1015 G1015 I1015
        · skip
          refine pt_d (pt_1 (fun n d => r_goto gx288_284) ?_)
          exact ih288_313 h0 h x1 x2 x3 x4 x5 _ _ S G I
    · intro h0 h x1 x2 x3 x4 x5 u6 u7 S G I
      obtain ⟨a1, z1⟩ : ∃ a : Int, x1.toInt = a := ⟨_, rfl⟩
      obtain ⟨a2, z2⟩ : ∃ a : Int, x2.toInt = a := ⟨_, rfl⟩
      obtain ⟨a3, z3⟩ : ∃ a : Int, x3.toInt = a := ⟨_, rfl⟩
      obtain ⟨a4, z4⟩ : ∃ a : Int, x4.toInt = a := ⟨_, rfl⟩
      obtain ⟨a5, z5⟩ : ∃ a : Int, x5.toInt = a := ⟨_, rfl⟩
      refine pt_iinc (c := 1) gx288_313 rfl z5 (fun v1001 h1001 => ?_)
      show Pt _ _ _ _ [some (.ref 72), some (.int x1), some (.int x2), some (.int x3), some (.int x4), some (.int v1001), u6, u7] [] _ _
      refine pt_d (pt_1 (fun n d => r_goto gx288_316) ?_)
      exact ih288_266 h0 h x1 x2 x3 x4 v1001 _ _ S G I
theorem wk_288 {n : Nat} {X : aX} {h : aH} {x1 : Int32} {a1 : Int} (S : wS h) (z1 : x1.toInt = a1) (I : IV h) : Pt n X zM288 0 [some (.ref 72), some (.int x1), none, none, none, none, none, none] [] h (qI (fun _ h' => wS h' ∧ hk h h' ∧ IV h')) := (wl_288 n).1 h h x1 S (hk_r h) I

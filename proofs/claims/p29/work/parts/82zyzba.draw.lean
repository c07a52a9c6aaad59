-- ===== the draw =====
theorem ul_270 {X : aX} : ∀ n : Nat, (∀ (h0 h : aH) (x1 : Int32) (x2 : Int32) (x3 : Int32), wS h → hk h0 h → TV h → Pt n X zM270 0 [some (.ref 72), some (.int x1), some (.int x2), some (.int x3), none, none] [] h (qI (fun _ h' => wS h' ∧ hk h0 h' ∧ TV h'))) ∧
    (∀ (h0 h : aH) (x1 : Int32) (x2 : Int32) (x3 : Int32) (x4 : Int32) (x5 : Int32), wS h → hk h0 h → TV h → Pt n X zM270 6 [some (.ref 72), some (.int x1), some (.int x2), some (.int x3), some (.int x4), some (.int x5)] [] h (qI (fun _ h' => wS h' ∧ hk h0 h' ∧ TV h'))) := by
  intro n
  induction n with
  | zero => refine ⟨?_, ?_⟩ <;> (intros; exact pt_z)
  | succ n ih =>
    obtain ⟨ih270_0, ih270_6⟩ := ih
    refine ⟨?_, ?_⟩
    · intro h0 h x1 x2 x3 S G I
      obtain ⟨a1, z1⟩ : ∃ a : Int, x1.toInt = a := ⟨_, rfl⟩
      obtain ⟨a2, z2⟩ : ∃ a : Int, x2.toInt = a := ⟨_, rfl⟩
      obtain ⟨a3, z3⟩ : ∃ a : Int, x3.toInt = a := ⟨_, rfl⟩
      refine pt_iconst gx270_0 (fun v1001 h1001 => ?_)
      refine pt_d (pt_1 (fun n d => r_istore (L' := [some (.ref 72), some (.int x1), some (.int x2), some (.int x3), some (.int v1001), none]) gx270_1 rfl rfl) ?_)
      refine pt_d (pt_iconst gx270_3 (fun v1002 h1002 => ?_))
      refine pt_d (pt_1 (fun n d => r_istore (L' := [some (.ref 72), some (.int x1), some (.int x2), some (.int x3), some (.int v1001), some (.int v1002)]) gx270_4 rfl rfl) ?_)
      exact ih270_6 h0 h x1 x2 x3 v1001 v1002 S G I
    · intro h0 h x1 x2 x3 x4 x5 S G I
      obtain ⟨a1, z1⟩ : ∃ a : Int, x1.toInt = a := ⟨_, rfl⟩
      obtain ⟨a2, z2⟩ : ∃ a : Int, x2.toInt = a := ⟨_, rfl⟩
      obtain ⟨a3, z3⟩ : ∃ a : Int, x3.toInt = a := ⟨_, rfl⟩
      obtain ⟨a4, z4⟩ : ∃ a : Int, x4.toInt = a := ⟨_, rfl⟩
      obtain ⟨a5, z5⟩ : ∃ a : Int, x5.toInt = a := ⟨_, rfl⟩
      refine pt_1 (fun n d => r_iload gx270_6 rfl) ?_
      refine pt_d (pt_1 (fun n d => r_aloadn gx270_8 rfl) ?_)
      refine pt_d (pt_getI (B := 19) gx270_9 S (fun v1001 h1001 => ?_))
      refine pt_d (pt_icmp_ge gx270_12 z5 h1001 (fun e1002 => ?_) (fun e1002 => ?_))
      · skip
        refine pt_d (pt_1 (fun n d => r_iload gx270_78 rfl) ?_)
        exact pt_d (pt_iret gx270_80 ⟨_, rfl, S, G, I⟩)
      · skip
        refine pt_d (pt_1 (fun n d => r_aloadn gx270_15 rfl) ?_)
        refine pt_d (pt_getR gx270_16 S tr_72_40 ?_)
        refine pt_d (pt_1 (fun n d => r_iload gx270_19 rfl) ?_)
        refine pt_d (pt_zald (N' := 300) gx270_21 S tl_103 z5 (fun v1004 p1004 q1004 h1004 => ?_))
        refine pt_d (pt_if_eq gx270_22 h1004 (fun e1005 => ?_) (fun e1005 => ?_))
        · skip
          refine pt_d (pt_iinc (c := 1) gx270_72 rfl z5 (fun v1006 h1006 => ?_))
          show Pt _ _ _ _ [some (.ref 72), some (.int x1), some (.int x2), some (.int x3), some (.int x4), some (.int v1006)] [] _ _
          refine pt_d (pt_1 (fun n d => r_goto gx270_75) ?_)
          exact ih270_6 h0 h x1 x2 x3 x4 v1006 S G I
        · skip
          refine pt_d (pt_1 (fun n d => r_aloadn gx270_25 rfl) ?_)
          refine pt_d (pt_getR gx270_26 S tr_72_20 ?_)
          refine pt_d (pt_1 (fun n d => r_iload gx270_29 rfl) ?_)
          refine pt_d (pt_iald (N' := 300) gx270_31 S tl_87 z5 (fun v1008 p1008 q1008 h1008 => ?_))
          refine pt_d (pt_1 (fun n d => r_iloadn gx270_32 rfl) ?_)
          refine pt_d (pt_icmp_ne gx270_33 h1008 z1 (fun e1009 => ?_) (fun e1009 => ?_))
          · skip
            refine pt_d (pt_iinc (c := 1) gx270_72 rfl z5 (fun v1010 h1010 => ?_))
            show Pt _ _ _ _ [some (.ref 72), some (.int x1), some (.int x2), some (.int x3), some (.int x4), some (.int v1010)] [] _ _
            refine pt_d (pt_1 (fun n d => r_goto gx270_75) ?_)
            exact ih270_6 h0 h x1 x2 x3 x4 v1010 S G I
          · skip
            refine pt_d (pt_1 (fun n d => r_aloadn gx270_36 rfl) ?_)
            refine pt_d (pt_1 (fun n d => r_iload gx270_37 rfl) ?_)
            refine pt_d (pt_virt (as := [.int x5]) (r := []) gx270_39 rfl (show zmt[229]? = some zM229 from rfl) rfl rfl rfl rfl (c_229 S z5) (kqP (fun v1011 h1011 => ?_)))
            show Pt _ _ _ 42 _ [.int v1011] _ _
            refine pt_d (pt_1 (fun n d => r_iloadn gx270_42 rfl) ?_)
            refine pt_d (pt_icmp_ne gx270_43 h1011 z2 (fun e1012 => ?_) (fun e1012 => ?_))
            · skip
              refine pt_d (pt_iinc (c := 1) gx270_72 rfl z5 (fun v1013 h1013 => ?_))
              show Pt _ _ _ _ [some (.ref 72), some (.int x1), some (.int x2), some (.int x3), some (.int x4), some (.int v1013)] [] _ _
              refine pt_d (pt_1 (fun n d => r_goto gx270_75) ?_)
              exact ih270_6 h0 h x1 x2 x3 x4 v1013 S G I
            · skip
              refine pt_d (pt_1 (fun n d => r_iload gx270_46 rfl) ?_)
              refine pt_d (pt_1 (fun n d => r_iloadn gx270_48 rfl) ?_)
              refine pt_d (pt_if_eq gx270_49 z3 (fun e1014 => ?_) (fun e1014 => ?_))
              · skip
                refine pt_d (pt_1 (fun n d => r_aloadn gx270_62 rfl) ?_)
                refine pt_d (pt_getR gx270_63 S tr_72_41 ?_)
                refine pt_d (pt_1 (fun n d => r_iload gx270_66 rfl) ?_)
                refine pt_d (pt_iald (N' := 300) gx270_68 S tl_104 z5 (fun v1016 p1016 q1016 h1016 => ?_))
                refine pt_d (pt_iadd gx270_69 z4 h1016 (fun v1017 h1017 => ?_))
                refine pt_d (pt_1 (fun n d => r_istore (L' := [some (.ref 72), some (.int x1), some (.int x2), some (.int x3), some (.int v1017), some (.int x5)]) gx270_70 rfl rfl) ?_)
                refine pt_d (pt_iinc (c := 1) gx270_72 rfl z5 (fun v1018 h1018 => ?_))
                show Pt _ _ _ _ [some (.ref 72), some (.int x1), some (.int x2), some (.int x3), some (.int v1017), some (.int v1018)] [] _ _
                refine pt_d (pt_1 (fun n d => r_goto gx270_75) ?_)
                exact ih270_6 h0 h x1 x2 x3 v1017 v1018 S G I
              · skip
                refine pt_d (pt_1 (fun n d => r_aloadn gx270_52 rfl) ?_)
                refine pt_d (pt_getR gx270_53 S tr_72_42 ?_)
                refine pt_d (pt_1 (fun n d => r_iload gx270_56 rfl) ?_)
                refine pt_d (pt_iald (N' := 300) gx270_58 S tl_105 z5 (fun v1020 p1020 q1020 h1020 => ?_))
                refine pt_d (pt_1 (fun n d => r_goto gx270_59) ?_)
                refine pt_d (pt_iadd gx270_69 z4 h1020 (fun v1021 h1021 => ?_))
                refine pt_d (pt_1 (fun n d => r_istore (L' := [some (.ref 72), some (.int x1), some (.int x2), some (.int x3), some (.int v1021), some (.int x5)]) gx270_70 rfl rfl) ?_)
                refine pt_d (pt_iinc (c := 1) gx270_72 rfl z5 (fun v1022 h1022 => ?_))
                show Pt _ _ _ _ [some (.ref 72), some (.int x1), some (.int x2), some (.int x3), some (.int v1021), some (.int v1022)] [] _ _
                refine pt_d (pt_1 (fun n d => r_goto gx270_75) ?_)
                exact ih270_6 h0 h x1 x2 x3 v1021 v1022 S G I
theorem uk_270 {n : Nat} {X : aX} {h : aH} {x1 : Int32} {x2 : Int32} {x3 : Int32} {a1 : Int} {a2 : Int} {a3 : Int} (S : wS h) (z1 : x1.toInt = a1) (z2 : x2.toInt = a2) (z3 : x3.toInt = a3) (I : TV h) : Pt n X zM270 0 [some (.ref 72), some (.int x1), some (.int x2), some (.int x3), none, none] [] h (qI (fun _ h' => wS h' ∧ hk h h' ∧ TV h')) := (ul_270 n).1 h h x1 x2 x3 S (hk_r h) I
theorem ul_271 {X : aX} : ∀ n : Nat, (∀ (h0 h : aH) (x1 : Int32) (x2 : Int32), wS h → hk h0 h → TV h → Pt n X zM271 0 [some (.ref 72), some (.int x1), some (.int x2), none, none] [] h (qI (fun _ h' => wS h' ∧ hk h0 h' ∧ TV h'))) := by
  intro n
  induction n with
  | zero => refine ?_ <;> (intros; exact pt_z)
  | succ n ih =>
    have ih271_0 := ih
    refine ?_
    · intro h0 h x1 x2 S G I
      obtain ⟨a1, z1⟩ : ∃ a : Int, x1.toInt = a := ⟨_, rfl⟩
      obtain ⟨a2, z2⟩ : ∃ a : Int, x2.toInt = a := ⟨_, rfl⟩
      refine pt_1 (fun n d => r_aloadn gx271_0 rfl) ?_
      refine pt_d (pt_1 (fun n d => r_iloadn gx271_1 rfl) ?_)
      refine pt_d (pt_1 (fun n d => r_iloadn gx271_2 rfl) ?_)
      refine pt_d (pt_iconst gx271_3 (fun v1001 h1001 => ?_))
      refine pt_d (pt_virt (as := [.int x1, .int x2, .int v1001]) (r := []) gx271_4 rfl (show zmt[270]? = some zM270 from rfl) rfl rfl rfl rfl (uk_270 S z1 z2 h1001 I) (kqI (fun v1002 y1002 h_1002 h1002 P1002 => ?_)))
      have S1002 := P1002.1
      have G1002 := hk_t G P1002.2.1
      have I1002 := P1002.2.2
      show Pt _ _ _ 7 _ [.int v1002] _ _
      refine pt_d (pt_1 (fun n d => r_istoren (L' := [some (.ref 72), some (.int x1), some (.int x2), some (.int v1002), none]) gx271_7 rfl rfl) ?_)
      refine pt_d (pt_1 (fun n d => r_aloadn gx271_8 rfl) ?_)
      refine pt_d (pt_1 (fun n d => r_iloadn gx271_9 rfl) ?_)
      refine pt_d (pt_1 (fun n d => r_iloadn gx271_10 rfl) ?_)
      refine pt_d (pt_iconst gx271_11 (fun v1003 h1003 => ?_))
      refine pt_d (pt_virt (as := [.int x1, .int x2, .int v1003]) (r := []) gx271_12 rfl (show zmt[270]? = some zM270 from rfl) rfl rfl rfl rfl (uk_270 S1002 z1 z2 h1003 I1002) (kqI (fun v1004 y1004 h_1004 h1004 P1004 => ?_)))
      have S1004 := P1004.1
      have G1004 := hk_t G1002 P1004.2.1
      have I1004 := P1004.2.2
      show Pt _ _ _ 15 _ [.int v1004] _ _
      refine pt_d (pt_1 (fun n d => r_istore (L' := [some (.ref 72), some (.int x1), some (.int x2), some (.int v1002), some (.int v1004)]) gx271_15 rfl rfl) ?_)
      refine pt_d (pt_1 (fun n d => r_iload gx271_17 rfl) ?_)
      refine pt_d (pt_if_ne gx271_19 h1004 (fun e1005 => ?_) (fun e1005 => ?_))
      · skip
        refine pt_d (pt_sipush gx271_34 (fun v1006 h1006 => ?_))
        refine pt_d (pt_bipush gx271_37 (fun v1007 h1007 => ?_))
        refine pt_d (pt_1 (fun n d => r_iloadn gx271_39 rfl) ?_)
        refine pt_d (pt_1 (fun n d => r_iload gx271_40 rfl) ?_)
        refine pt_d (pt_isub gx271_42 h1002 h1004 (fun v1008 h1008 => ?_))
        refine pt_d (pt_imul gx271_43 h1007 h1008 (fun v1009 h1009 => ?_))
        refine pt_d (pt_1 (fun n d => r_iload gx271_44 rfl) ?_)
        refine pt_d (pt_idiv gx271_46 h1009 h1004 (fun v1010 h1010 => ?_))
        refine pt_d (pt_stat (as := [.int v1006, .int v1010]) (r := []) gx271_47 rfl (show zmt[211]? = some zM211 from rfl) rfl rfl rfl rfl (c_211 S1004 h1006 h1010) (kqP (fun v1011 h1011 => ?_)))
        show Pt _ _ _ 50 _ [.int v1011] _ _
        exact pt_d (pt_iret gx271_50 ⟨_, rfl, S1004, G1004, I1004⟩)
      · skip
        refine pt_d (pt_1 (fun n d => r_iloadn gx271_22 rfl) ?_)
        refine pt_d (pt_if_ne gx271_23 h1002 (fun e1012 => ?_) (fun e1012 => ?_))
        · skip
          refine pt_d (pt_sipush gx271_30 (fun v1013 h1013 => ?_))
          exact pt_d (pt_iret gx271_33 ⟨_, rfl, S1004, G1004, I1004⟩)
        · skip
          refine pt_d (pt_iconst gx271_26 (fun v1014 h1014 => ?_))
          refine pt_d (pt_1 (fun n d => r_goto gx271_27) ?_)
          exact pt_d (pt_iret gx271_33 ⟨_, rfl, S1004, G1004, I1004⟩)
theorem uk_271 {n : Nat} {X : aX} {h : aH} {x1 : Int32} {x2 : Int32} {a1 : Int} {a2 : Int} (S : wS h) (z1 : x1.toInt = a1) (z2 : x2.toInt = a2) (I : TV h) : Pt n X zM271 0 [some (.ref 72), some (.int x1), some (.int x2), none, none] [] h (qI (fun _ h' => wS h' ∧ hk h h' ∧ TV h')) := (ul_271 n) h h x1 x2 S (hk_r h) I
theorem ul_293 {X : aX} : ∀ n : Nat, (∀ (h0 h : aH) (x1 : Int32) (x2 : Int32), wS h → hk h0 h → TV h → Pt n X zM293 0 [some (.ref 72), some (.int x1), some (.int x2)] [] h (qI (fun _ h' => wS h' ∧ hk h0 h' ∧ TV h'))) := by
  intro n
  induction n with
  | zero => refine ?_ <;> (intros; exact pt_z)
  | succ n ih =>
    have ih293_0 := ih
    refine ?_
    · intro h0 h x1 x2 S G I
      obtain ⟨a1, z1⟩ : ∃ a : Int, x1.toInt = a := ⟨_, rfl⟩
      obtain ⟨a2, z2⟩ : ∃ a : Int, x2.toInt = a := ⟨_, rfl⟩
      refine pt_1 (fun n d => r_iloadn gx293_0 rfl) ?_
      refine pt_d (pt_if_ne gx293_1 z2 (fun e1001 => ?_) (fun e1001 => ?_))
      · skip
        refine pt_d (pt_1 (fun n d => r_aloadn gx293_8 rfl) ?_)
        refine pt_d (pt_1 (fun n d => r_iloadn gx293_9 rfl) ?_)
        refine pt_d (pt_1 (fun n d => r_iloadn gx293_10 rfl) ?_)
        refine pt_d (pt_iconst gx293_11 (fun v1002 h1002 => ?_))
        refine pt_d (pt_isub gx293_12 z2 h1002 (fun v1003 h1003 => ?_))
        refine pt_d (pt_virt (as := [.int x1, .int v1003]) (r := []) gx293_13 rfl (show zmt[271]? = some zM271 from rfl) rfl rfl rfl rfl (uk_271 S z1 h1003 I) (kqI (fun v1004 y1004 h_1004 h1004 P1004 => ?_)))
        have S1004 := P1004.1
        have G1004 := hk_t G P1004.2.1
        have I1004 := P1004.2.2
        show Pt _ _ _ 16 _ [.int v1004] _ _
        exact pt_d (pt_iret gx293_16 ⟨_, rfl, S1004, G1004, I1004⟩)
      · skip
        refine pt_d (pt_iconst gx293_4 (fun v1005 h1005 => ?_))
        refine pt_d (pt_1 (fun n d => r_goto gx293_5) ?_)
        exact pt_d (pt_iret gx293_16 ⟨_, rfl, S, G, I⟩)
theorem uk_293 {n : Nat} {X : aX} {h : aH} {x1 : Int32} {x2 : Int32} {a1 : Int} {a2 : Int} (S : wS h) (z1 : x1.toInt = a1) (z2 : x2.toInt = a2) (I : TV h) : Pt n X zM293 0 [some (.ref 72), some (.int x1), some (.int x2)] [] h (qI (fun _ h' => wS h' ∧ hk h h' ∧ TV h')) := (ul_293 n) h h x1 x2 S (hk_r h) I

-- ===== weak contracts =====
theorem wl_270 {X : aX} : ∀ n : Nat, (∀ (h0 h : aH) (x1 : Int32) (x2 : Int32) (x3 : Int32), wS h → hk h0 h → IV h → Pt n X zM270 0 [some (.ref 72), some (.int x1), some (.int x2), some (.int x3), none, none] [] h (qI (fun _ h' => wS h' ∧ hk h0 h' ∧ IV h'))) ∧
    (∀ (h0 h : aH) (x1 : Int32) (x2 : Int32) (x3 : Int32) (x4 : Int32) (x5 : Int32), wS h → hk h0 h → IV h → Pt n X zM270 6 [some (.ref 72), some (.int x1), some (.int x2), some (.int x3), some (.int x4), some (.int x5)] [] h (qI (fun _ h' => wS h' ∧ hk h0 h' ∧ IV h'))) := by
  intro n
  induction n with
  | zero => refine ⟨?_, ?_⟩ <;> (intros; exact pt_z)
  | succ n ih =>
    obtain ⟨ih270_0, ih270_6⟩ := ih
    refine ⟨?_, ?_⟩
    · intro h0 h x1 x2 x3 S G I
      obtain ⟨a1, z1⟩ : ∃ a : Int, x1.toInt = a := ⟨_, rfl⟩
      obtain ⟨a2, z2⟩ : ∃ a : Int, x2.toInt = a := ⟨_, rfl⟩
      obtain ⟨a3, z3⟩ : ∃ a : Int, x3.toInt = a := ⟨_, rfl⟩
      refine pt_iconst gx270_0 (fun v1001 h1001 => ?_)
      refine pt_d (pt_1 (fun n d => r_istore (L' := [some (.ref 72), some (.int x1), some (.int x2), some (.int x3), some (.int v1001), none]) gx270_1 rfl rfl) ?_)
      refine pt_d (pt_iconst gx270_3 (fun v1002 h1002 => ?_))
      refine pt_d (pt_1 (fun n d => r_istore (L' := [some (.ref 72), some (.int x1), some (.int x2), some (.int x3), some (.int v1001), some (.int v1002)]) gx270_4 rfl rfl) ?_)
      exact ih270_6 h0 h x1 x2 x3 v1001 v1002 S G I
    · intro h0 h x1 x2 x3 x4 x5 S G I
      obtain ⟨a1, z1⟩ : ∃ a : Int, x1.toInt = a := ⟨_, rfl⟩
      obtain ⟨a2, z2⟩ : ∃ a : Int, x2.toInt = a := ⟨_, rfl⟩
      obtain ⟨a3, z3⟩ : ∃ a : Int, x3.toInt = a := ⟨_, rfl⟩
      obtain ⟨a4, z4⟩ : ∃ a : Int, x4.toInt = a := ⟨_, rfl⟩
      obtain ⟨a5, z5⟩ : ∃ a : Int, x5.toInt = a := ⟨_, rfl⟩
      refine pt_1 (fun n d => r_iload gx270_6 rfl) ?_
      refine pt_d (pt_1 (fun n d => r_aloadn gx270_8 rfl) ?_)
      refine pt_d (pt_getI (B := 19) gx270_9 S (fun v1001 h1001 => ?_))
      refine pt_d (pt_icmp_ge gx270_12 z5 h1001 (fun e1002 => ?_) (fun e1002 => ?_))
      · skip
        refine pt_d (pt_1 (fun n d => r_iload gx270_78 rfl) ?_)
        exact pt_d (pt_iret gx270_80 ⟨_, rfl, S, G, I⟩)
      · skip
        refine pt_d (pt_1 (fun n d => r_aloadn gx270_15 rfl) ?_)
        refine pt_d (pt_getR gx270_16 S tr_72_40 ?_)
        refine pt_d (pt_1 (fun n d => r_iload gx270_19 rfl) ?_)
        refine pt_d (pt_zald (N' := 300) gx270_21 S tl_103 z5 (fun v1004 p1004 q1004 h1004 => ?_))
        refine pt_d (pt_if_eq gx270_22 h1004 (fun e1005 => ?_) (fun e1005 => ?_))
        · skip
          refine pt_d (pt_iinc (c := 1) gx270_72 rfl z5 (fun v1006 h1006 => ?_))
          show Pt _ _ _ _ [some (.ref 72), some (.int x1), some (.int x2), some (.int x3), some (.int x4), some (.int v1006)] [] _ _
          refine pt_d (pt_1 (fun n d => r_goto gx270_75) ?_)
          exact ih270_6 h0 h x1 x2 x3 x4 v1006 S G I
        · skip
          refine pt_d (pt_1 (fun n d => r_aloadn gx270_25 rfl) ?_)
          refine pt_d (pt_getR gx270_26 S tr_72_20 ?_)
          refine pt_d (pt_1 (fun n d => r_iload gx270_29 rfl) ?_)
          refine pt_d (pt_iald (N' := 300) gx270_31 S tl_87 z5 (fun v1008 p1008 q1008 h1008 => ?_))
          refine pt_d (pt_1 (fun n d => r_iloadn gx270_32 rfl) ?_)
          refine pt_d (pt_icmp_ne gx270_33 h1008 z1 (fun e1009 => ?_) (fun e1009 => ?_))
          · skip
            refine pt_d (pt_iinc (c := 1) gx270_72 rfl z5 (fun v1010 h1010 => ?_))
            show Pt _ _ _ _ [some (.ref 72), some (.int x1), some (.int x2), some (.int x3), some (.int x4), some (.int v1010)] [] _ _
            refine pt_d (pt_1 (fun n d => r_goto gx270_75) ?_)
            exact ih270_6 h0 h x1 x2 x3 x4 v1010 S G I
          · skip
            refine pt_d (pt_1 (fun n d => r_aloadn gx270_36 rfl) ?_)
            refine pt_d (pt_1 (fun n d => r_iload gx270_37 rfl) ?_)
            refine pt_d (pt_virt (as := [.int x5]) (r := []) gx270_39 rfl (show zmt[229]? = some zM229 from rfl) rfl rfl rfl rfl (c_229 S z5) (kqP (fun v1011 h1011 => ?_)))
            show Pt _ _ _ 42 _ [.int v1011] _ _
            refine pt_d (pt_1 (fun n d => r_iloadn gx270_42 rfl) ?_)
            refine pt_d (pt_icmp_ne gx270_43 h1011 z2 (fun e1012 => ?_) (fun e1012 => ?_))
            · skip
              refine pt_d (pt_iinc (c := 1) gx270_72 rfl z5 (fun v1013 h1013 => ?_))
              show Pt _ _ _ _ [some (.ref 72), some (.int x1), some (.int x2), some (.int x3), some (.int x4), some (.int v1013)] [] _ _
              refine pt_d (pt_1 (fun n d => r_goto gx270_75) ?_)
              exact ih270_6 h0 h x1 x2 x3 x4 v1013 S G I
            · skip
              refine pt_d (pt_1 (fun n d => r_iload gx270_46 rfl) ?_)
              refine pt_d (pt_1 (fun n d => r_iloadn gx270_48 rfl) ?_)
              refine pt_d (pt_if_eq gx270_49 z3 (fun e1014 => ?_) (fun e1014 => ?_))
              · skip
                refine pt_d (pt_1 (fun n d => r_aloadn gx270_62 rfl) ?_)
                refine pt_d (pt_getR gx270_63 S tr_72_41 ?_)
                refine pt_d (pt_1 (fun n d => r_iload gx270_66 rfl) ?_)
                refine pt_d (pt_iald (N' := 300) gx270_68 S tl_104 z5 (fun v1016 p1016 q1016 h1016 => ?_))
                refine pt_d (pt_iadd gx270_69 z4 h1016 (fun v1017 h1017 => ?_))
                refine pt_d (pt_1 (fun n d => r_istore (L' := [some (.ref 72), some (.int x1), some (.int x2), some (.int x3), some (.int v1017), some (.int x5)]) gx270_70 rfl rfl) ?_)
                refine pt_d (pt_iinc (c := 1) gx270_72 rfl z5 (fun v1018 h1018 => ?_))
                show Pt _ _ _ _ [some (.ref 72), some (.int x1), some (.int x2), some (.int x3), some (.int v1017), some (.int v1018)] [] _ _
                refine pt_d (pt_1 (fun n d => r_goto gx270_75) ?_)
                exact ih270_6 h0 h x1 x2 x3 v1017 v1018 S G I
              · skip
                refine pt_d (pt_1 (fun n d => r_aloadn gx270_52 rfl) ?_)
                refine pt_d (pt_getR gx270_53 S tr_72_42 ?_)
                refine pt_d (pt_1 (fun n d => r_iload gx270_56 rfl) ?_)
                refine pt_d (pt_iald (N' := 300) gx270_58 S tl_105 z5 (fun v1020 p1020 q1020 h1020 => ?_))
                refine pt_d (pt_1 (fun n d => r_goto gx270_59) ?_)
                refine pt_d (pt_iadd gx270_69 z4 h1020 (fun v1021 h1021 => ?_))
                refine pt_d (pt_1 (fun n d => r_istore (L' := [some (.ref 72), some (.int x1), some (.int x2), some (.int x3), some (.int v1021), some (.int x5)]) gx270_70 rfl rfl) ?_)
                refine pt_d (pt_iinc (c := 1) gx270_72 rfl z5 (fun v1022 h1022 => ?_))
                show Pt _ _ _ _ [some (.ref 72), some (.int x1), some (.int x2), some (.int x3), some (.int v1021), some (.int v1022)] [] _ _
                refine pt_d (pt_1 (fun n d => r_goto gx270_75) ?_)
                exact ih270_6 h0 h x1 x2 x3 v1021 v1022 S G I
theorem wk_270 {n : Nat} {X : aX} {h : aH} {x1 : Int32} {x2 : Int32} {x3 : Int32} {a1 : Int} {a2 : Int} {a3 : Int} (S : wS h) (z1 : x1.toInt = a1) (z2 : x2.toInt = a2) (z3 : x3.toInt = a3) (I : IV h) : Pt n X zM270 0 [some (.ref 72), some (.int x1), some (.int x2), some (.int x3), none, none] [] h (qI (fun _ h' => wS h' ∧ hk h h' ∧ IV h')) := (wl_270 n).1 h h x1 x2 x3 S (hk_r h) I
theorem wl_271 {X : aX} : ∀ n : Nat, (∀ (h0 h : aH) (x1 : Int32) (x2 : Int32), wS h → hk h0 h → IV h → Pt n X zM271 0 [some (.ref 72), some (.int x1), some (.int x2), none, none] [] h (qI (fun _ h' => wS h' ∧ hk h0 h' ∧ IV h'))) := by
  intro n
  induction n with
  | zero => refine ?_ <;> (intros; exact pt_z)
  | succ n ih =>
    have ih271_0 := ih
    refine ?_
    · intro h0 h x1 x2 S G I
      obtain ⟨a1, z1⟩ : ∃ a : Int, x1.toInt = a := ⟨_, rfl⟩
      obtain ⟨a2, z2⟩ : ∃ a : Int, x2.toInt = a := ⟨_, rfl⟩
      refine pt_1 (fun n d => r_aloadn gx271_0 rfl) ?_
      refine pt_d (pt_1 (fun n d => r_iloadn gx271_1 rfl) ?_)
      refine pt_d (pt_1 (fun n d => r_iloadn gx271_2 rfl) ?_)
      refine pt_d (pt_iconst gx271_3 (fun v1001 h1001 => ?_))
      refine pt_d (pt_virt (as := [.int x1, .int x2, .int v1001]) (r := []) gx271_4 rfl (show zmt[270]? = some zM270 from rfl) rfl rfl rfl rfl (wk_270 S z1 z2 h1001 I) (kqI (fun v1002 y1002 h_1002 h1002 P1002 => ?_)))
      have S1002 := P1002.1
      have G1002 := hk_t G P1002.2.1
      have I1002 := P1002.2.2
      show Pt _ _ _ 7 _ [.int v1002] _ _
      refine pt_d (pt_1 (fun n d => r_istoren (L' := [some (.ref 72), some (.int x1), some (.int x2), some (.int v1002), none]) gx271_7 rfl rfl) ?_)
      refine pt_d (pt_1 (fun n d => r_aloadn gx271_8 rfl) ?_)
      refine pt_d (pt_1 (fun n d => r_iloadn gx271_9 rfl) ?_)
      refine pt_d (pt_1 (fun n d => r_iloadn gx271_10 rfl) ?_)
      refine pt_d (pt_iconst gx271_11 (fun v1003 h1003 => ?_))
      refine pt_d (pt_virt (as := [.int x1, .int x2, .int v1003]) (r := []) gx271_12 rfl (show zmt[270]? = some zM270 from rfl) rfl rfl rfl rfl (wk_270 S1002 z1 z2 h1003 I1002) (kqI (fun v1004 y1004 h_1004 h1004 P1004 => ?_)))
      have S1004 := P1004.1
      have G1004 := hk_t G1002 P1004.2.1
      have I1004 := P1004.2.2
      show Pt _ _ _ 15 _ [.int v1004] _ _
      refine pt_d (pt_1 (fun n d => r_istore (L' := [some (.ref 72), some (.int x1), some (.int x2), some (.int v1002), some (.int v1004)]) gx271_15 rfl rfl) ?_)
      refine pt_d (pt_1 (fun n d => r_iload gx271_17 rfl) ?_)
      refine pt_d (pt_if_ne gx271_19 h1004 (fun e1005 => ?_) (fun e1005 => ?_))
      · skip
        refine pt_d (pt_sipush gx271_34 (fun v1006 h1006 => ?_))
        refine pt_d (pt_bipush gx271_37 (fun v1007 h1007 => ?_))
        refine pt_d (pt_1 (fun n d => r_iloadn gx271_39 rfl) ?_)
        refine pt_d (pt_1 (fun n d => r_iload gx271_40 rfl) ?_)
        refine pt_d (pt_isub gx271_42 h1002 h1004 (fun v1008 h1008 => ?_))
        refine pt_d (pt_imul gx271_43 h1007 h1008 (fun v1009 h1009 => ?_))
        refine pt_d (pt_1 (fun n d => r_iload gx271_44 rfl) ?_)
        refine pt_d (pt_idiv gx271_46 h1009 h1004 (fun v1010 h1010 => ?_))
        refine pt_d (pt_stat (as := [.int v1006, .int v1010]) (r := []) gx271_47 rfl (show zmt[211]? = some zM211 from rfl) rfl rfl rfl rfl (c_211 S1004 h1006 h1010) (kqP (fun v1011 h1011 => ?_)))
        show Pt _ _ _ 50 _ [.int v1011] _ _
        exact pt_d (pt_iret gx271_50 ⟨_, rfl, S1004, G1004, I1004⟩)
      · skip
        refine pt_d (pt_1 (fun n d => r_iloadn gx271_22 rfl) ?_)
        refine pt_d (pt_if_ne gx271_23 h1002 (fun e1012 => ?_) (fun e1012 => ?_))
        · skip
          refine pt_d (pt_sipush gx271_30 (fun v1013 h1013 => ?_))
          exact pt_d (pt_iret gx271_33 ⟨_, rfl, S1004, G1004, I1004⟩)
        · skip
          refine pt_d (pt_iconst gx271_26 (fun v1014 h1014 => ?_))
          refine pt_d (pt_1 (fun n d => r_goto gx271_27) ?_)
          exact pt_d (pt_iret gx271_33 ⟨_, rfl, S1004, G1004, I1004⟩)
theorem wk_271 {n : Nat} {X : aX} {h : aH} {x1 : Int32} {x2 : Int32} {a1 : Int} {a2 : Int} (S : wS h) (z1 : x1.toInt = a1) (z2 : x2.toInt = a2) (I : IV h) : Pt n X zM271 0 [some (.ref 72), some (.int x1), some (.int x2), none, none] [] h (qI (fun _ h' => wS h' ∧ hk h h' ∧ IV h')) := (wl_271 n) h h x1 x2 S (hk_r h) I
theorem wl_273 {X : aX} : ∀ n : Nat, (∀ (h0 h : aH) (x1 : Int32) (x2 : Int32) (x3 : Int32), wS h → hk h0 h → IV h → Pt n X zM273 0 [some (.ref 72), some (.int x1), some (.int x2), some (.int x3)] [] h (qI (fun _ h' => wS h' ∧ hk h0 h' ∧ IV h'))) := by
  intro n
  induction n with
  | zero => refine ?_ <;> (intros; exact pt_z)
  | succ n ih =>
    have ih273_0 := ih
    refine ?_
    · intro h0 h x1 x2 x3 S G I
      obtain ⟨a1, z1⟩ : ∃ a : Int, x1.toInt = a := ⟨_, rfl⟩
      obtain ⟨a2, z2⟩ : ∃ a : Int, x2.toInt = a := ⟨_, rfl⟩
      obtain ⟨a3, z3⟩ : ∃ a : Int, x3.toInt = a := ⟨_, rfl⟩
      refine pt_1 (fun n d => r_aloadn gx273_0 rfl) ?_
      refine pt_d (pt_getR gx273_1 S tr_72_48 ?_)
      refine pt_d (pt_bipush gx273_4 (fun v1002 h1002 => ?_))
      refine pt_d (pt_1 (fun n d => r_iloadn gx273_6 rfl) ?_)
      refine pt_d (pt_imul gx273_7 h1002 z1 (fun v1003 h1003 => ?_))
      refine pt_d (pt_1 (fun n d => r_iloadn gx273_8 rfl) ?_)
      refine pt_d (pt_iadd gx273_9 h1003 z2 (fun v1004 h1004 => ?_))
      refine pt_d (pt_iald (N' := 1500) gx273_10 S tl_111 h1004 (fun v1005 p1005 q1005 h1005 => ?_))
      refine pt_d (pt_if_le gx273_11 h1005 (fun e1006 => ?_) (fun e1006 => ?_))
      · skip
        refine pt_d (pt_iconst gx273_35 (fun v1007 h1007 => ?_))
        exact pt_d (pt_iret gx273_36 ⟨_, rfl, S, G, I⟩)
      · skip
        refine pt_d (pt_1 (fun n d => r_aloadn gx273_14 rfl) ?_)
        refine pt_d (pt_getR gx273_15 S tr_72_48 ?_)
        refine pt_d (pt_bipush gx273_18 (fun v1009 h1009 => ?_))
        refine pt_d (pt_1 (fun n d => r_iloadn gx273_20 rfl) ?_)
        refine pt_d (pt_imul gx273_21 h1009 z1 (fun v1010 h1010 => ?_))
        refine pt_d (pt_1 (fun n d => r_iloadn gx273_22 rfl) ?_)
        refine pt_d (pt_iadd gx273_23 h1010 z2 (fun v1011 h1011 => ?_))
        refine pt_d (pt_iald (N' := 1500) gx273_24 S tl_111 h1011 (fun v1012 p1012 q1012 h1012 => ?_))
        refine pt_d (pt_iconst gx273_25 (fun v1013 h1013 => ?_))
        refine pt_d (pt_isub gx273_26 h1012 h1013 (fun v1014 h1014 => ?_))
        refine pt_d (pt_1 (fun n d => r_iloadn gx273_27 rfl) ?_)
        refine pt_d (pt_icmp_gt gx273_28 h1014 z3 (fun e1015 => ?_) (fun e1015 => ?_))
        · skip
          refine pt_d (pt_iconst gx273_35 (fun v1016 h1016 => ?_))
          exact pt_d (pt_iret gx273_36 ⟨_, rfl, S, G, I⟩)
        · skip
          refine pt_d (pt_iconst gx273_31 (fun v1017 h1017 => ?_))
          refine pt_d (pt_1 (fun n d => r_goto gx273_32) ?_)
          exact pt_d (pt_iret gx273_36 ⟨_, rfl, S, G, I⟩)
theorem wk_273 {n : Nat} {X : aX} {h : aH} {x1 : Int32} {x2 : Int32} {x3 : Int32} {a1 : Int} {a2 : Int} {a3 : Int} (S : wS h) (z1 : x1.toInt = a1) (z2 : x2.toInt = a2) (z3 : x3.toInt = a3) (I : IV h) : Pt n X zM273 0 [some (.ref 72), some (.int x1), some (.int x2), some (.int x3)] [] h (qI (fun _ h' => wS h' ∧ hk h h' ∧ IV h')) := (wl_273 n) h h x1 x2 x3 S (hk_r h) I
theorem wl_272 {X : aX} : ∀ n : Nat, (∀ (h0 h : aH) (x1 : Int32) (x2 : Int32) (x3 : Int32), wS h → hk h0 h → IV h → Pt n X zM272 0 [some (.ref 72), some (.int x1), some (.int x2), some (.int x3), none, none, none, none, none, none, none, none] [] h (qN (fun h' => wS h' ∧ hk h0 h' ∧ IV h'))) ∧
    (∀ (h0 h : aH) (x1 : Int32) (x2 : Int32) (x3 : Int32) (x4 : Int32) (x5 : Int32) (x6 : Int32) (x7 : Int32), wS h → hk h0 h → IV h → Pt n X zM272 23 [some (.ref 72), some (.int x1), some (.int x2), some (.int x3), some (.int x4), some (.int x5), some (.int x6), some (.int x7), none, none, none, none] [] h (qN (fun h' => wS h' ∧ hk h0 h' ∧ IV h'))) ∧
    (∀ (h0 h : aH) (x1 : Int32) (x2 : Int32) (x3 : Int32) (x4 : Int32) (x5 : Int32) (x6 : Int32) (x7 : Int32), wS h → hk h0 h → IV h → Pt n X zM272 47 [some (.ref 72), some (.int x1), some (.int x2), some (.int x3), some (.int x4), some (.int x5), some (.int x6), some (.int x7), none, none, none, none] [] h (qN (fun h' => wS h' ∧ hk h0 h' ∧ IV h'))) ∧
    (∀ (h0 h : aH) (x1 : Int32) (x2 : Int32) (x3 : Int32) (x4 : Int32) (x5 : Int32) (x6 : Int32) (x7 : Int32) (xs0 : Int32) (xs1 : Int32), wS h → hk h0 h → IV h → Pt n X zM272 141 [some (.ref 72), some (.int x1), some (.int x2), some (.int x3), some (.int x4), some (.int x5), some (.int x6), some (.int x7), none, none, none, none] [.int xs1, .int xs0] h (qN (fun h' => wS h' ∧ hk h0 h' ∧ IV h'))) ∧
    (∀ (h0 h : aH) (x1 : Int32) (x2 : Int32) (x3 : Int32) (x4 : Int32) (x5 : Int32) (x6 : Int32) (x7 : Int32), wS h → hk h0 h → IV h → Pt n X zM272 148 [some (.ref 72), some (.int x1), some (.int x2), some (.int x3), some (.int x4), some (.int x5), some (.int x6), some (.int x7), none, none, none, none] [] h (qN (fun h' => wS h' ∧ hk h0 h' ∧ IV h'))) ∧
    (∀ (h0 h : aH) (x1 : Int32) (x2 : Int32) (x3 : Int32) (x4 : Int32) (x5 : Int32) (x6 : Int32) (x7 : Int32) (x8 : Int32) (x9 : Int32), wS h → hk h0 h → IV h → Pt n X zM272 163 [some (.ref 72), some (.int x1), some (.int x2), some (.int x3), some (.int x4), some (.int x5), some (.int x6), some (.int x7), some (.int x8), some (.int x9), none, none] [] h (qN (fun h' => wS h' ∧ hk h0 h' ∧ IV h'))) ∧
    (∀ (h0 h : aH) (x1 : Int32) (x2 : Int32) (x3 : Int32) (x4 : Int32) (x5 : Int32) (x6 : Int32) (x7 : Int32) (x8 : Int32) (x9 : Int32) (xs0 : Int32) (xs1 : Int32), wS h → hk h0 h → IV h → Pt n X zM272 187 [some (.ref 72), some (.int x1), some (.int x2), some (.int x3), some (.int x4), some (.int x5), some (.int x6), some (.int x7), some (.int x8), some (.int x9), none, none] [.int xs1, .int xs0] h (qN (fun h' => wS h' ∧ hk h0 h' ∧ IV h'))) ∧
    (∀ (h0 h : aH) (x1 : Int32) (x2 : Int32) (x3 : Int32) (x4 : Int32) (x5 : Int32) (x6 : Int32) (x7 : Int32) (x8 : Int32) (x9 : Int32) (x10 : Int32), wS h → hk h0 h → IV h → Pt n X zM272 216 [some (.ref 72), some (.int x1), some (.int x2), some (.int x3), some (.int x4), some (.int x5), some (.int x6), some (.int x7), some (.int x8), some (.int x9), some (.int x10), none] [] h (qN (fun h' => wS h' ∧ hk h0 h' ∧ IV h'))) ∧
    (∀ (h0 h : aH) (x1 : Int32) (x2 : Int32) (x3 : Int32) (x4 : Int32) (x5 : Int32) (x6 : Int32) (x7 : Int32) (x8 : Int32) (x9 : Int32) (x10 : Int32) (xs0 : Int32) (xs1 : Int32), wS h → hk h0 h → IV h → Pt n X zM272 248 [some (.ref 72), some (.int x1), some (.int x2), some (.int x3), some (.int x4), some (.int x5), some (.int x6), some (.int x7), some (.int x8), some (.int x9), some (.int x10), none] [.int xs1, .int xs0] h (qN (fun h' => wS h' ∧ hk h0 h' ∧ IV h'))) ∧
    (∀ (h0 h : aH) (x1 : Int32) (x2 : Int32) (x3 : Int32) (x4 : Int32) (x5 : Int32) (x6 : Int32) (x7 : Int32) (x8 : Int32) (x9 : Int32) (x10 : Int32) (x11 : Int32), wS h → hk h0 h → IV h → Pt n X zM272 263 [some (.ref 72), some (.int x1), some (.int x2), some (.int x3), some (.int x4), some (.int x5), some (.int x6), some (.int x7), some (.int x8), some (.int x9), some (.int x10), some (.int x11)] [] h (qN (fun h' => wS h' ∧ hk h0 h' ∧ IV h'))) ∧
    (∀ (h0 h : aH) (x1 : Int32) (x2 : Int32) (x3 : Int32) (x4 : Int32) (x5 : Int32) (x6 : Int32) (x7 : Int32) (x8 : Int32) (x9 : Int32) (x10 : Int32) (x11 : Int32) (xs0 : Int32), wS h → hk h0 h → IV h → Pt n X zM272 312 [some (.ref 72), some (.int x1), some (.int x2), some (.int x3), some (.int x4), some (.int x5), some (.int x6), some (.int x7), some (.int x8), some (.int x9), some (.int x10), some (.int x11)] [.int xs0] h (qN (fun h' => wS h' ∧ hk h0 h' ∧ IV h'))) ∧
    (∀ (h0 h : aH) (x1 : Int32) (x2 : Int32) (x3 : Int32) (x4 : Int32) (x5 : Int32) (x6 : Int32) (x7 : Int32) (x8 : Int32) (x9 : Int32) (x10 : Int32) (x11 : Int32) (xs0 : Int32) (xs1 : Int32), wS h → hk h0 h → IV h → Pt n X zM272 313 [some (.ref 72), some (.int x1), some (.int x2), some (.int x3), some (.int x4), some (.int x5), some (.int x6), some (.int x7), some (.int x8), some (.int x9), some (.int x10), some (.int x11)] [.int xs1, .int xs0] h (qN (fun h' => wS h' ∧ hk h0 h' ∧ IV h'))) ∧
    (∀ (h0 h : aH) (x1 : Int32) (x2 : Int32) (x3 : Int32) (x4 : Int32) (x5 : Int32) (x6 : Int32) (x7 : Int32) (x8 : Int32) (x9 : Int32) (x10 : Int32) (x11 : Int32) (xs1 : Int32) (xs2 : Int32), wS h → hk h0 h → IV h → Pt n X zM272 384 [some (.ref 72), some (.int x1), some (.int x2), some (.int x3), some (.int x4), some (.int x5), some (.int x6), some (.int x7), some (.int x8), some (.int x9), some (.int x10), some (.int x11)] [.int xs2, .int xs1, .ref 124] h (qN (fun h' => wS h' ∧ hk h0 h' ∧ IV h'))) ∧
    (∀ (h0 h : aH) (x1 : Int32) (x2 : Int32) (x3 : Int32) (x4 : Int32) (x5 : Int32) (x6 : Int32) (x7 : Int32) (x8 : Int32) (x9 : Int32) (x10 : Int32) (x11 : Int32) (xs1 : Int32) (xs2 : Int32), wS h → hk h0 h → IV h → Pt n X zM272 416 [some (.ref 72), some (.int x1), some (.int x2), some (.int x3), some (.int x4), some (.int x5), some (.int x6), some (.int x7), some (.int x8), some (.int x9), some (.int x10), some (.int x11)] [.int xs2, .int xs1, .ref 124] h (qN (fun h' => wS h' ∧ hk h0 h' ∧ IV h'))) ∧
    (∀ (h0 h : aH) (x1 : Int32) (x2 : Int32) (x3 : Int32) (x4 : Int32) (x5 : Int32) (x6 : Int32) (x7 : Int32) (x8 : Int32) (x9 : Int32) (x10 : Int32) (x11 : Int32) (xs1 : Int32) (xs2 : Int32), wS h → hk h0 h → IV h → Pt n X zM272 438 [some (.ref 72), some (.int x1), some (.int x2), some (.int x3), some (.int x4), some (.int x5), some (.int x6), some (.int x7), some (.int x8), some (.int x9), some (.int x10), some (.int x11)] [.int xs2, .int xs1, .ref 124] h (qN (fun h' => wS h' ∧ hk h0 h' ∧ IV h'))) ∧
    (∀ (h0 h : aH) (x1 : Int32) (x2 : Int32) (x3 : Int32) (x4 : Int32) (x5 : Int32) (x6 : Int32) (x7 : Int32) (x8 : Int32) (x9 : Int32) (x10 : Int32) (x11 : Int32) (xs1 : Int32) (xs2 : Int32), wS h → hk h0 h → IV h → Pt n X zM272 490 [some (.ref 72), some (.int x1), some (.int x2), some (.int x3), some (.int x4), some (.int x5), some (.int x6), some (.int x7), some (.int x8), some (.int x9), some (.int x10), some (.int x11)] [.int xs2, .int xs1, .ref 124] h (qN (fun h' => wS h' ∧ hk h0 h' ∧ IV h'))) := by
  intro n
  induction n with
  | zero => refine ⟨?_, ?_, ?_, ?_, ?_, ?_, ?_, ?_, ?_, ?_, ?_, ?_, ?_, ?_, ?_, ?_⟩ <;> (intros; exact pt_z)
  | succ n ih =>
    obtain ⟨ih272_0, ih272_23, ih272_47, ih272_141, ih272_148, ih272_163, ih272_187, ih272_216, ih272_248, ih272_263, ih272_312, ih272_313, ih272_384, ih272_416, ih272_438, ih272_490⟩ := ih
    refine ⟨?_, ?_, ?_, ?_, ?_, ?_, ?_, ?_, ?_, ?_, ?_, ?_, ?_, ?_, ?_, ?_⟩
    · intro h0 h x1 x2 x3 S G I
      obtain ⟨a1, z1⟩ : ∃ a : Int, x1.toInt = a := ⟨_, rfl⟩
      obtain ⟨a2, z2⟩ : ∃ a : Int, x2.toInt = a := ⟨_, rfl⟩
      obtain ⟨a3, z3⟩ : ∃ a : Int, x3.toInt = a := ⟨_, rfl⟩
      refine pt_1 (fun n d => r_aloadn gx272_0 rfl) ?_
      refine pt_d (pt_1 (fun n d => r_iloadn gx272_1 rfl) ?_)
      refine pt_d (pt_virt (as := [.int x3]) (r := []) gx272_2 rfl (show zmt[239]? = some zM239 from rfl) rfl rfl rfl rfl (wk_239 S z3 I) (kqN (fun h_1001 P1001 => ?_)))
      have S1001 := P1001.1
      have G1001 := hk_t G P1001.2.1
      have I1001 := P1001.2.2
      show Pt _ _ _ 5 _ [] _ _
      refine pt_d (pt_1 (fun n d => r_aloadn gx272_5 rfl) ?_)
      refine pt_d (pt_1 (fun n d => r_iloadn gx272_6 rfl) ?_)
      refine pt_d (pt_1 (fun n d => r_iloadn gx272_7 rfl) ?_)
      refine pt_d (pt_iconst gx272_8 (fun v1002 h1002 => ?_))
      refine pt_d (pt_virt (as := [.int x1, .int x2, .int v1002]) (r := []) gx272_9 rfl (show zmt[270]? = some zM270 from rfl) rfl rfl rfl rfl (wk_270 S1001 z1 z2 h1002 I1001) (kqI (fun v1003 y1003 h_1003 h1003 P1003 => ?_)))
      have S1003 := P1003.1
      have G1003 := hk_t G1001 P1003.2.1
      have I1003 := P1003.2.2
      show Pt _ _ _ 12 _ [.int v1003] _ _
      refine pt_d (pt_1 (fun n d => r_istore (L' := [some (.ref 72), some (.int x1), some (.int x2), some (.int x3), some (.int v1003), none, none, none, none, none, none, none]) gx272_12 rfl rfl) ?_)
      refine pt_d (pt_iconst gx272_14 (fun v1004 h1004 => ?_))
      refine pt_d (pt_1 (fun n d => r_istore (L' := [some (.ref 72), some (.int x1), some (.int x2), some (.int x3), some (.int v1003), some (.int v1004), none, none, none, none, none, none]) gx272_15 rfl rfl) ?_)
      refine pt_d (pt_iconst gx272_17 (fun v1005 h1005 => ?_))
      refine pt_d (pt_1 (fun n d => r_istore (L' := [some (.ref 72), some (.int x1), some (.int x2), some (.int x3), some (.int v1003), some (.int v1004), some (.int v1005), none, none, none, none, none]) gx272_18 rfl rfl) ?_)
      refine pt_d (pt_iconst gx272_20 (fun v1006 h1006 => ?_))
      refine pt_d (pt_1 (fun n d => r_istore (L' := [some (.ref 72), some (.int x1), some (.int x2), some (.int x3), some (.int v1003), some (.int v1004), some (.int v1005), some (.int v1006), none, none, none, none]) gx272_21 rfl rfl) ?_)
      exact ih272_23 h0 h_1003 x1 x2 x3 v1003 v1004 v1005 v1006 S1003 G1003 I1003
    · intro h0 h x1 x2 x3 x4 x5 x6 x7 S G I
      obtain ⟨a1, z1⟩ : ∃ a : Int, x1.toInt = a := ⟨_, rfl⟩
      obtain ⟨a2, z2⟩ : ∃ a : Int, x2.toInt = a := ⟨_, rfl⟩
      obtain ⟨a3, z3⟩ : ∃ a : Int, x3.toInt = a := ⟨_, rfl⟩
      obtain ⟨a4, z4⟩ : ∃ a : Int, x4.toInt = a := ⟨_, rfl⟩
      obtain ⟨a5, z5⟩ : ∃ a : Int, x5.toInt = a := ⟨_, rfl⟩
      obtain ⟨a6, z6⟩ : ∃ a : Int, x6.toInt = a := ⟨_, rfl⟩
      obtain ⟨a7, z7⟩ : ∃ a : Int, x7.toInt = a := ⟨_, rfl⟩
      refine pt_1 (fun n d => r_iload gx272_23 rfl) ?_
      refine pt_d (pt_bipush gx272_25 (fun v1001 h1001 => ?_))
      refine pt_d (pt_icmp_ge gx272_27 z7 h1001 (fun e1002 => ?_) (fun e1002 => ?_))
      · skip
        refine pt_d (pt_iconst gx272_44 (fun v1003 h1003 => ?_))
        refine pt_d (pt_1 (fun n d => r_istore (L' := [some (.ref 72), some (.int x1), some (.int x2), some (.int x3), some (.int x4), some (.int x5), some (.int x6), some (.int v1003), none, none, none, none]) gx272_45 rfl rfl) ?_)
        exact ih272_47 h0 h x1 x2 x3 x4 x5 x6 v1003 S G I
      · skip
        refine pt_d (pt_1 (fun n d => r_aloadn gx272_30 rfl) ?_)
        refine pt_d (pt_getR gx272_31 S tr_72_72 ?_)
        refine pt_d (pt_1 (fun n d => r_iload gx272_34 rfl) ?_)
        refine pt_d (pt_iconst gx272_36 (fun v1005 h1005 => ?_))
        refine pt_d (pt_iasth (N' := 8) gx272_37 S tl_126 z7 h1005 (fun h_1006 S1006 p1006 q1006 e1006 K1006 => ?_))
        have G1006 := hk_t G K1006
        have I1006 := IV_ua I K1006 e1006 (by decide)
        refine pt_d (pt_iinc (c := 1) gx272_38 rfl z7 (fun v1007 h1007 => ?_))
        show Pt _ _ _ _ [some (.ref 72), some (.int x1), some (.int x2), some (.int x3), some (.int x4), some (.int x5), some (.int x6), some (.int v1007), none, none, none, none] [] _ _
        refine pt_d (pt_1 (fun n d => r_goto gx272_41) ?_)
        exact ih272_23 h0 h_1006 x1 x2 x3 x4 x5 x6 v1007 S1006 G1006 I1006
    · intro h0 h x1 x2 x3 x4 x5 x6 x7 S G I
      obtain ⟨a1, z1⟩ : ∃ a : Int, x1.toInt = a := ⟨_, rfl⟩
      obtain ⟨a2, z2⟩ : ∃ a : Int, x2.toInt = a := ⟨_, rfl⟩
      obtain ⟨a3, z3⟩ : ∃ a : Int, x3.toInt = a := ⟨_, rfl⟩
      obtain ⟨a4, z4⟩ : ∃ a : Int, x4.toInt = a := ⟨_, rfl⟩
      obtain ⟨a5, z5⟩ : ∃ a : Int, x5.toInt = a := ⟨_, rfl⟩
      obtain ⟨a6, z6⟩ : ∃ a : Int, x6.toInt = a := ⟨_, rfl⟩
      obtain ⟨a7, z7⟩ : ∃ a : Int, x7.toInt = a := ⟨_, rfl⟩
      refine pt_1 (fun n d => r_iload gx272_47 rfl) ?_
      refine pt_d (pt_1 (fun n d => r_aloadn gx272_49 rfl) ?_)
      refine pt_d (pt_getI (B := 19) gx272_50 S (fun v1001 h1001 => ?_))
      refine pt_d (pt_icmp_ge gx272_53 z7 h1001 (fun e1002 => ?_) (fun e1002 => ?_))
      · skip
        refine pt_d (pt_iconst gx272_154 (fun v1003 h1003 => ?_))
        refine pt_d (pt_1 (fun n d => r_istore (L' := [some (.ref 72), some (.int x1), some (.int x2), some (.int x3), some (.int x4), some (.int x5), some (.int x6), some (.int v1003), none, none, none, none]) gx272_155 rfl rfl) ?_)
        refine pt_d (pt_iconst gx272_157 (fun v1004 h1004 => ?_))
        refine pt_d (pt_1 (fun n d => r_istore (L' := [some (.ref 72), some (.int x1), some (.int x2), some (.int x3), some (.int x4), some (.int x5), some (.int x6), some (.int v1003), some (.int v1004), none, none, none]) gx272_158 rfl rfl) ?_)
        refine pt_d (pt_iconst gx272_160 (fun v1005 h1005 => ?_))
        refine pt_d (pt_1 (fun n d => r_istore (L' := [some (.ref 72), some (.int x1), some (.int x2), some (.int x3), some (.int x4), some (.int x5), some (.int x6), some (.int v1003), some (.int v1004), some (.int v1005), none, none]) gx272_161 rfl rfl) ?_)
        exact ih272_163 h0 h x1 x2 x3 x4 x5 x6 v1003 v1004 v1005 S G I
      · skip
        refine pt_d (pt_1 (fun n d => r_aloadn gx272_56 rfl) ?_)
        refine pt_d (pt_getR gx272_57 S tr_72_40 ?_)
        refine pt_d (pt_1 (fun n d => r_iload gx272_60 rfl) ?_)
        refine pt_d (pt_zald (N' := 300) gx272_62 S tl_103 z7 (fun v1007 p1007 q1007 h1007 => ?_))
        refine pt_d (pt_if_eq gx272_63 h1007 (fun e1008 => ?_) (fun e1008 => ?_))
        · skip
          exact ih272_148 h0 h x1 x2 x3 x4 x5 x6 x7 S G I
        · skip
          refine pt_d (pt_1 (fun n d => r_aloadn gx272_66 rfl) ?_)
          refine pt_d (pt_getR gx272_67 S tr_72_20 ?_)
          refine pt_d (pt_1 (fun n d => r_iload gx272_70 rfl) ?_)
          refine pt_d (pt_iald (N' := 300) gx272_72 S tl_87 z7 (fun v1010 p1010 q1010 h1010 => ?_))
          refine pt_d (pt_1 (fun n d => r_iloadn gx272_73 rfl) ?_)
          refine pt_d (pt_icmp_ne gx272_74 h1010 z1 (fun e1011 => ?_) (fun e1011 => ?_))
          · skip
            exact ih272_148 h0 h x1 x2 x3 x4 x5 x6 x7 S G I
          · skip
            refine pt_d (pt_1 (fun n d => r_aloadn gx272_77 rfl) ?_)
            refine pt_d (pt_1 (fun n d => r_iload gx272_78 rfl) ?_)
            refine pt_d (pt_virt (as := [.int x7]) (r := []) gx272_80 rfl (show zmt[229]? = some zM229 from rfl) rfl rfl rfl rfl (c_229 S z7) (kqP (fun v1012 h1012 => ?_)))
            show Pt _ _ _ 83 _ [.int v1012] _ _
            refine pt_d (pt_1 (fun n d => r_iloadn gx272_83 rfl) ?_)
            refine pt_d (pt_icmp_eq gx272_84 h1012 z2 (fun e1013 => ?_) (fun e1013 => ?_))
            · skip
              refine pt_d (pt_1 (fun n d => r_aloadn gx272_90 rfl) ?_)
              refine pt_d (pt_getR gx272_91 S tr_72_72 ?_)
              refine pt_d (pt_1 (fun n d => r_aloadn gx272_94 rfl) ?_)
              refine pt_d (pt_getR gx272_95 S tr_72_22 ?_)
              refine pt_d (pt_1 (fun n d => r_iload gx272_98 rfl) ?_)
              refine pt_d (pt_iald (N' := 300) gx272_100 S tl_89 z7 (fun v1016 p1016 q1016 h1016 => ?_))
              refine pt_d (pt_1 (fun n d => r_dup2 gx272_101 rfl) ?_)
              refine pt_d (pt_iald (N' := 8) gx272_102 S tl_126 h1016 (fun v1017 p1017 q1017 h1017 => ?_))
              refine pt_d (pt_1 (fun n d => r_aloadn gx272_103 rfl) ?_)
              refine pt_d (pt_getR gx272_104 S tr_72_41 ?_)
              refine pt_d (pt_1 (fun n d => r_iload gx272_107 rfl) ?_)
              refine pt_d (pt_iald (N' := 300) gx272_109 S tl_104 z7 (fun v1019 p1019 q1019 h1019 => ?_))
              refine pt_d (pt_iadd gx272_110 h1017 h1019 (fun v1020 h1020 => ?_))
              refine pt_d (pt_iasth (N' := 8) gx272_111 S tl_126 h1016 h1020 (fun h_1021 S1021 p1021 q1021 e1021 K1021 => ?_))
              have G1021 := hk_t G K1021
              have I1021 := IV_ua I K1021 e1021 (by decide)
              refine pt_d (pt_1 (fun n d => r_iload gx272_112 rfl) ?_)
              refine pt_d (pt_1 (fun n d => r_aloadn gx272_114 rfl) ?_)
              refine pt_d (pt_getR gx272_115 S1021 tr_72_3 ?_)
              refine pt_d (pt_1 (fun n d => r_aloadn gx272_118 rfl) ?_)
              refine pt_d (pt_getR gx272_119 S1021 tr_72_21 ?_)
              refine pt_d (pt_1 (fun n d => r_iload gx272_122 rfl) ?_)
              refine pt_d (pt_iald (N' := 300) gx272_124 S1021 tl_88 z7 (fun v1024 p1024 q1024 h1024 => ?_))
              have h1024 : v1024.toInt = vw h 88 a7 := by rw [h1024, e1021, up_c (by decide)]
              refine pt_d (pt_iald (N' := 150) gx272_125 S1021 tl_73 h1024 (fun v1025 p1025 q1025 h1025 => ?_))
              have h1025 : v1025.toInt = vw h 73 (vw h 88 a7) := by rw [h1025, e1021, up_c (by decide)]
              refine pt_d (pt_iconst gx272_126 (fun v1026 h1026 => ?_))
              refine pt_d (pt_icmp_ne gx272_127 h1025 h1026 (fun e1027 => ?_) (fun e1027 => ?_))
              · skip
                refine pt_d (pt_iconst gx272_140 (fun v1028 h1028 => ?_))
                exact ih272_141 h0 h_1021 x1 x2 x3 x4 x5 x6 x7 x5 v1028 S1021 G1021 I1021
              · skip
                refine pt_d (pt_1 (fun n d => r_aloadn gx272_130 rfl) ?_)
                refine pt_d (pt_getR gx272_131 S1021 tr_72_41 ?_)
                refine pt_d (pt_1 (fun n d => r_iload gx272_134 rfl) ?_)
                refine pt_d (pt_iald (N' := 300) gx272_136 S1021 tl_104 z7 (fun v1030 p1030 q1030 h1030 => ?_))
                have h1030 : v1030.toInt = vw h 104 a7 := by rw [h1030, e1021, up_c (by decide)]
                refine pt_d (pt_1 (fun n d => r_goto gx272_137) ?_)
                exact ih272_141 h0 h_1021 x1 x2 x3 x4 x5 x6 x7 x5 v1030 S1021 G1021 I1021
            · skip
              refine pt_d (pt_1 (fun n d => r_goto gx272_87) ?_)
              exact ih272_148 h0 h x1 x2 x3 x4 x5 x6 x7 S G I
    · intro h0 h x1 x2 x3 x4 x5 x6 x7 xs0 xs1 S G I
      obtain ⟨a1, z1⟩ : ∃ a : Int, x1.toInt = a := ⟨_, rfl⟩
      obtain ⟨a2, z2⟩ : ∃ a : Int, x2.toInt = a := ⟨_, rfl⟩
      obtain ⟨a3, z3⟩ : ∃ a : Int, x3.toInt = a := ⟨_, rfl⟩
      obtain ⟨a4, z4⟩ : ∃ a : Int, x4.toInt = a := ⟨_, rfl⟩
      obtain ⟨a5, z5⟩ : ∃ a : Int, x5.toInt = a := ⟨_, rfl⟩
      obtain ⟨a6, z6⟩ : ∃ a : Int, x6.toInt = a := ⟨_, rfl⟩
      obtain ⟨a7, z7⟩ : ∃ a : Int, x7.toInt = a := ⟨_, rfl⟩
      obtain ⟨as0, zs0⟩ : ∃ a : Int, xs0.toInt = a := ⟨_, rfl⟩
      obtain ⟨as1, zs1⟩ : ∃ a : Int, xs1.toInt = a := ⟨_, rfl⟩
      refine pt_iadd gx272_141 zs0 zs1 (fun v1001 h1001 => ?_)
      refine pt_d (pt_1 (fun n d => r_istore (L' := [some (.ref 72), some (.int x1), some (.int x2), some (.int x3), some (.int x4), some (.int v1001), some (.int x6), some (.int x7), none, none, none, none]) gx272_142 rfl rfl) ?_)
      refine pt_d (pt_1 (fun n d => r_iload gx272_144 rfl) ?_)
      refine pt_d (pt_1 (fun n d => r_istore (L' := [some (.ref 72), some (.int x1), some (.int x2), some (.int x3), some (.int x4), some (.int v1001), some (.int x7), some (.int x7), none, none, none, none]) gx272_146 rfl rfl) ?_)
      exact ih272_148 h0 h x1 x2 x3 x4 v1001 x7 x7 S G I
    · intro h0 h x1 x2 x3 x4 x5 x6 x7 S G I
      obtain ⟨a1, z1⟩ : ∃ a : Int, x1.toInt = a := ⟨_, rfl⟩
      obtain ⟨a2, z2⟩ : ∃ a : Int, x2.toInt = a := ⟨_, rfl⟩
      obtain ⟨a3, z3⟩ : ∃ a : Int, x3.toInt = a := ⟨_, rfl⟩
      obtain ⟨a4, z4⟩ : ∃ a : Int, x4.toInt = a := ⟨_, rfl⟩
      obtain ⟨a5, z5⟩ : ∃ a : Int, x5.toInt = a := ⟨_, rfl⟩
      obtain ⟨a6, z6⟩ : ∃ a : Int, x6.toInt = a := ⟨_, rfl⟩
      obtain ⟨a7, z7⟩ : ∃ a : Int, x7.toInt = a := ⟨_, rfl⟩
      refine pt_iinc (c := 1) gx272_148 rfl z7 (fun v1001 h1001 => ?_)
      show Pt _ _ _ _ [some (.ref 72), some (.int x1), some (.int x2), some (.int x3), some (.int x4), some (.int x5), some (.int x6), some (.int v1001), none, none, none, none] [] _ _
      refine pt_d (pt_1 (fun n d => r_goto gx272_151) ?_)
      exact ih272_47 h0 h x1 x2 x3 x4 x5 x6 v1001 S G I
    · intro h0 h x1 x2 x3 x4 x5 x6 x7 x8 x9 S G I
      obtain ⟨a1, z1⟩ : ∃ a : Int, x1.toInt = a := ⟨_, rfl⟩
      obtain ⟨a2, z2⟩ : ∃ a : Int, x2.toInt = a := ⟨_, rfl⟩
      obtain ⟨a3, z3⟩ : ∃ a : Int, x3.toInt = a := ⟨_, rfl⟩
      obtain ⟨a4, z4⟩ : ∃ a : Int, x4.toInt = a := ⟨_, rfl⟩
      obtain ⟨a5, z5⟩ : ∃ a : Int, x5.toInt = a := ⟨_, rfl⟩
      obtain ⟨a6, z6⟩ : ∃ a : Int, x6.toInt = a := ⟨_, rfl⟩
      obtain ⟨a7, z7⟩ : ∃ a : Int, x7.toInt = a := ⟨_, rfl⟩
      obtain ⟨a8, z8⟩ : ∃ a : Int, x8.toInt = a := ⟨_, rfl⟩
      obtain ⟨a9, z9⟩ : ∃ a : Int, x9.toInt = a := ⟨_, rfl⟩
      refine pt_1 (fun n d => r_iload gx272_163 rfl) ?_
      refine pt_d (pt_bipush gx272_165 (fun v1001 h1001 => ?_))
      refine pt_d (pt_icmp_ge gx272_167 z9 h1001 (fun e1002 => ?_) (fun e1002 => ?_))
      · skip
        refine pt_d (pt_iconst gx272_210 (fun v1003 h1003 => ?_))
        refine pt_d (pt_1 (fun n d => r_istore (L' := [some (.ref 72), some (.int x1), some (.int x2), some (.int x3), some (.int x4), some (.int x5), some (.int x6), some (.int x7), some (.int x8), some (.int v1003), none, none]) gx272_211 rfl rfl) ?_)
        refine pt_d (pt_iconst gx272_213 (fun v1004 h1004 => ?_))
        refine pt_d (pt_1 (fun n d => r_istore (L' := [some (.ref 72), some (.int x1), some (.int x2), some (.int x3), some (.int x4), some (.int x5), some (.int x6), some (.int x7), some (.int x8), some (.int v1003), some (.int v1004), none]) gx272_214 rfl rfl) ?_)
        exact ih272_216 h0 h x1 x2 x3 x4 x5 x6 x7 x8 v1003 v1004 S G I
      · skip
        refine pt_d (pt_1 (fun n d => r_iload gx272_170 rfl) ?_)
        refine pt_d (pt_1 (fun n d => r_aloadn gx272_172 rfl) ?_)
        refine pt_d (pt_getR gx272_173 S tr_72_72 ?_)
        refine pt_d (pt_1 (fun n d => r_iload gx272_176 rfl) ?_)
        refine pt_d (pt_iald (N' := 8) gx272_178 S tl_126 z9 (fun v1006 p1006 q1006 h1006 => ?_))
        refine pt_d (pt_if_le gx272_179 h1006 (fun e1007 => ?_) (fun e1007 => ?_))
        · skip
          refine pt_d (pt_iconst gx272_186 (fun v1008 h1008 => ?_))
          exact ih272_187 h0 h x1 x2 x3 x4 x5 x6 x7 x8 x9 x7 v1008 S G I
        · skip
          refine pt_d (pt_iconst gx272_182 (fun v1009 h1009 => ?_))
          refine pt_d (pt_1 (fun n d => r_goto gx272_183) ?_)
          exact ih272_187 h0 h x1 x2 x3 x4 x5 x6 x7 x8 x9 x7 v1009 S G I
    · intro h0 h x1 x2 x3 x4 x5 x6 x7 x8 x9 xs0 xs1 S G I
      obtain ⟨a1, z1⟩ : ∃ a : Int, x1.toInt = a := ⟨_, rfl⟩
      obtain ⟨a2, z2⟩ : ∃ a : Int, x2.toInt = a := ⟨_, rfl⟩
      obtain ⟨a3, z3⟩ : ∃ a : Int, x3.toInt = a := ⟨_, rfl⟩
      obtain ⟨a4, z4⟩ : ∃ a : Int, x4.toInt = a := ⟨_, rfl⟩
      obtain ⟨a5, z5⟩ : ∃ a : Int, x5.toInt = a := ⟨_, rfl⟩
      obtain ⟨a6, z6⟩ : ∃ a : Int, x6.toInt = a := ⟨_, rfl⟩
      obtain ⟨a7, z7⟩ : ∃ a : Int, x7.toInt = a := ⟨_, rfl⟩
      obtain ⟨a8, z8⟩ : ∃ a : Int, x8.toInt = a := ⟨_, rfl⟩
      obtain ⟨a9, z9⟩ : ∃ a : Int, x9.toInt = a := ⟨_, rfl⟩
      obtain ⟨as0, zs0⟩ : ∃ a : Int, xs0.toInt = a := ⟨_, rfl⟩
      obtain ⟨as1, zs1⟩ : ∃ a : Int, xs1.toInt = a := ⟨_, rfl⟩
      refine pt_iadd gx272_187 zs0 zs1 (fun v1001 h1001 => ?_)
      refine pt_d (pt_1 (fun n d => r_istore (L' := [some (.ref 72), some (.int x1), some (.int x2), some (.int x3), some (.int x4), some (.int x5), some (.int x6), some (.int v1001), some (.int x8), some (.int x9), none, none]) gx272_188 rfl rfl) ?_)
      refine pt_d (pt_1 (fun n d => r_iload gx272_190 rfl) ?_)
      refine pt_d (pt_1 (fun n d => r_aloadn gx272_192 rfl) ?_)
      refine pt_d (pt_getR gx272_193 S tr_72_72 ?_)
      refine pt_d (pt_1 (fun n d => r_iload gx272_196 rfl) ?_)
      refine pt_d (pt_iald (N' := 8) gx272_198 S tl_126 z9 (fun v1003 p1003 q1003 h1003 => ?_))
      refine pt_d (pt_stat (as := [.int x8, .int v1003]) (r := []) gx272_199 rfl (show zmt[212]? = some zM212 from rfl) rfl rfl rfl rfl (c_212 S z8 h1003) (kqP (fun v1004 h1004 => ?_)))
      show Pt _ _ _ 202 _ [.int v1004] _ _
      refine pt_d (pt_1 (fun n d => r_istore (L' := [some (.ref 72), some (.int x1), some (.int x2), some (.int x3), some (.int x4), some (.int x5), some (.int x6), some (.int v1001), some (.int v1004), some (.int x9), none, none]) gx272_202 rfl rfl) ?_)
      refine pt_d (pt_iinc (c := 1) gx272_204 rfl z9 (fun v1005 h1005 => ?_))
      show Pt _ _ _ _ [some (.ref 72), some (.int x1), some (.int x2), some (.int x3), some (.int x4), some (.int x5), some (.int x6), some (.int v1001), some (.int v1004), some (.int v1005), none, none] [] _ _
      refine pt_d (pt_1 (fun n d => r_goto gx272_207) ?_)
      exact ih272_163 h0 h x1 x2 x3 x4 x5 x6 v1001 v1004 v1005 S G I
    · intro h0 h x1 x2 x3 x4 x5 x6 x7 x8 x9 x10 S G I
      obtain ⟨a1, z1⟩ : ∃ a : Int, x1.toInt = a := ⟨_, rfl⟩
      obtain ⟨a2, z2⟩ : ∃ a : Int, x2.toInt = a := ⟨_, rfl⟩
      obtain ⟨a3, z3⟩ : ∃ a : Int, x3.toInt = a := ⟨_, rfl⟩
      obtain ⟨a4, z4⟩ : ∃ a : Int, x4.toInt = a := ⟨_, rfl⟩
      obtain ⟨a5, z5⟩ : ∃ a : Int, x5.toInt = a := ⟨_, rfl⟩
      obtain ⟨a6, z6⟩ : ∃ a : Int, x6.toInt = a := ⟨_, rfl⟩
      obtain ⟨a7, z7⟩ : ∃ a : Int, x7.toInt = a := ⟨_, rfl⟩
      obtain ⟨a8, z8⟩ : ∃ a : Int, x8.toInt = a := ⟨_, rfl⟩
      obtain ⟨a9, z9⟩ : ∃ a : Int, x9.toInt = a := ⟨_, rfl⟩
      obtain ⟨a10, z10⟩ : ∃ a : Int, x10.toInt = a := ⟨_, rfl⟩
      refine pt_1 (fun n d => r_iload gx272_216 rfl) ?_
      refine pt_d (pt_1 (fun n d => r_iloadn gx272_218 rfl) ?_)
      refine pt_d (pt_icmp_ge gx272_219 z10 z2 (fun e1001 => ?_) (fun e1001 => ?_))
      · skip
        refine pt_d (pt_iconst gx272_257 (fun v1002 h1002 => ?_))
        refine pt_d (pt_1 (fun n d => r_istore (L' := [some (.ref 72), some (.int x1), some (.int x2), some (.int x3), some (.int x4), some (.int x5), some (.int x6), some (.int x7), some (.int x8), some (.int x9), some (.int v1002), none]) gx272_258 rfl rfl) ?_)
        refine pt_d (pt_iconst gx272_260 (fun v1003 h1003 => ?_))
        refine pt_d (pt_1 (fun n d => r_istore (L' := [some (.ref 72), some (.int x1), some (.int x2), some (.int x3), some (.int x4), some (.int x5), some (.int x6), some (.int x7), some (.int x8), some (.int x9), some (.int v1002), some (.int v1003)]) gx272_261 rfl rfl) ?_)
        exact ih272_263 h0 h x1 x2 x3 x4 x5 x6 x7 x8 x9 v1002 v1003 S G I
      · skip
        refine pt_d (pt_1 (fun n d => r_iload gx272_222 rfl) ?_)
        refine pt_d (pt_1 (fun n d => r_aloadn gx272_224 rfl) ?_)
        refine pt_d (pt_1 (fun n d => r_iloadn gx272_225 rfl) ?_)
        refine pt_d (pt_1 (fun n d => r_iload gx272_226 rfl) ?_)
        refine pt_d (pt_iconst gx272_228 (fun v1004 h1004 => ?_))
        refine pt_d (pt_virt (as := [.int x1, .int x10, .int v1004]) (r := [.int x9]) gx272_229 rfl (show zmt[270]? = some zM270 from rfl) rfl rfl rfl rfl (wk_270 S z1 z10 h1004 I) (kqI (fun v1005 y1005 h_1005 h1005 P1005 => ?_)))
        have S1005 := P1005.1
        have G1005 := hk_t G P1005.2.1
        have I1005 := P1005.2.2
        show Pt _ _ _ 232 _ [.int v1005, .int x9] _ _
        refine pt_d (pt_1 (fun n d => r_aloadn gx272_232 rfl) ?_)
        refine pt_d (pt_1 (fun n d => r_iloadn gx272_233 rfl) ?_)
        refine pt_d (pt_1 (fun n d => r_iload gx272_234 rfl) ?_)
        refine pt_d (pt_iconst gx272_236 (fun v1006 h1006 => ?_))
        refine pt_d (pt_virt (as := [.int x1, .int x10, .int v1006]) (r := [.int v1005, .int x9]) gx272_237 rfl (show zmt[270]? = some zM270 from rfl) rfl rfl rfl rfl (wk_270 S1005 z1 z10 h1006 I1005) (kqI (fun v1007 y1007 h_1007 h1007 P1007 => ?_)))
        have S1007 := P1007.1
        have G1007 := hk_t G1005 P1007.2.1
        have I1007 := P1007.2.2
        show Pt _ _ _ 240 _ [.int v1007, .int v1005, .int x9] _ _
        refine pt_d (pt_icmp_le gx272_240 h1005 h1007 (fun e1008 => ?_) (fun e1008 => ?_))
        · skip
          refine pt_d (pt_iconst gx272_247 (fun v1009 h1009 => ?_))
          exact ih272_248 h0 h_1007 x1 x2 x3 x4 x5 x6 x7 x8 x9 x10 x9 v1009 S1007 G1007 I1007
        · skip
          refine pt_d (pt_iconst gx272_243 (fun v1010 h1010 => ?_))
          refine pt_d (pt_1 (fun n d => r_goto gx272_244) ?_)
          exact ih272_248 h0 h_1007 x1 x2 x3 x4 x5 x6 x7 x8 x9 x10 x9 v1010 S1007 G1007 I1007
    · intro h0 h x1 x2 x3 x4 x5 x6 x7 x8 x9 x10 xs0 xs1 S G I
      obtain ⟨a1, z1⟩ : ∃ a : Int, x1.toInt = a := ⟨_, rfl⟩
      obtain ⟨a2, z2⟩ : ∃ a : Int, x2.toInt = a := ⟨_, rfl⟩
      obtain ⟨a3, z3⟩ : ∃ a : Int, x3.toInt = a := ⟨_, rfl⟩
      obtain ⟨a4, z4⟩ : ∃ a : Int, x4.toInt = a := ⟨_, rfl⟩
      obtain ⟨a5, z5⟩ : ∃ a : Int, x5.toInt = a := ⟨_, rfl⟩
      obtain ⟨a6, z6⟩ : ∃ a : Int, x6.toInt = a := ⟨_, rfl⟩
      obtain ⟨a7, z7⟩ : ∃ a : Int, x7.toInt = a := ⟨_, rfl⟩
      obtain ⟨a8, z8⟩ : ∃ a : Int, x8.toInt = a := ⟨_, rfl⟩
      obtain ⟨a9, z9⟩ : ∃ a : Int, x9.toInt = a := ⟨_, rfl⟩
      obtain ⟨a10, z10⟩ : ∃ a : Int, x10.toInt = a := ⟨_, rfl⟩
      obtain ⟨as0, zs0⟩ : ∃ a : Int, xs0.toInt = a := ⟨_, rfl⟩
      obtain ⟨as1, zs1⟩ : ∃ a : Int, xs1.toInt = a := ⟨_, rfl⟩
      refine pt_iadd gx272_248 zs0 zs1 (fun v1001 h1001 => ?_)
      refine pt_d (pt_1 (fun n d => r_istore (L' := [some (.ref 72), some (.int x1), some (.int x2), some (.int x3), some (.int x4), some (.int x5), some (.int x6), some (.int x7), some (.int x8), some (.int v1001), some (.int x10), none]) gx272_249 rfl rfl) ?_)
      refine pt_d (pt_iinc (c := 1) gx272_251 rfl z10 (fun v1002 h1002 => ?_))
      show Pt _ _ _ _ [some (.ref 72), some (.int x1), some (.int x2), some (.int x3), some (.int x4), some (.int x5), some (.int x6), some (.int x7), some (.int x8), some (.int v1001), some (.int v1002), none] [] _ _
      refine pt_d (pt_1 (fun n d => r_goto gx272_254) ?_)
      exact ih272_216 h0 h x1 x2 x3 x4 x5 x6 x7 x8 v1001 v1002 S G I
    · intro h0 h x1 x2 x3 x4 x5 x6 x7 x8 x9 x10 x11 S G I
      obtain ⟨a1, z1⟩ : ∃ a : Int, x1.toInt = a := ⟨_, rfl⟩
      obtain ⟨a2, z2⟩ : ∃ a : Int, x2.toInt = a := ⟨_, rfl⟩
      obtain ⟨a3, z3⟩ : ∃ a : Int, x3.toInt = a := ⟨_, rfl⟩
      obtain ⟨a4, z4⟩ : ∃ a : Int, x4.toInt = a := ⟨_, rfl⟩
      obtain ⟨a5, z5⟩ : ∃ a : Int, x5.toInt = a := ⟨_, rfl⟩
      obtain ⟨a6, z6⟩ : ∃ a : Int, x6.toInt = a := ⟨_, rfl⟩
      obtain ⟨a7, z7⟩ : ∃ a : Int, x7.toInt = a := ⟨_, rfl⟩
      obtain ⟨a8, z8⟩ : ∃ a : Int, x8.toInt = a := ⟨_, rfl⟩
      obtain ⟨a9, z9⟩ : ∃ a : Int, x9.toInt = a := ⟨_, rfl⟩
      obtain ⟨a10, z10⟩ : ∃ a : Int, x10.toInt = a := ⟨_, rfl⟩
      obtain ⟨a11, z11⟩ : ∃ a : Int, x11.toInt = a := ⟨_, rfl⟩
      refine pt_1 (fun n d => r_iload gx272_263 rfl) ?_
      refine pt_d (pt_1 (fun n d => r_aloadn gx272_265 rfl) ?_)
      refine pt_d (pt_getI (B := 2) gx272_266 S (fun v1001 h1001 => ?_))
      refine pt_d (pt_icmp_ge gx272_269 z11 h1001 (fun e1002 => ?_) (fun e1002 => ?_))
      · skip
        refine pt_d (pt_1 (fun n d => r_aloadn gx272_322 rfl) ?_)
        refine pt_d (pt_getR gx272_323 S tr_72_69 ?_)
        refine pt_d (pt_iconst gx272_326 (fun v1004 h1004 => ?_))
        refine pt_d (pt_1 (fun n d => r_iloadn gx272_327 rfl) ?_)
        refine pt_d (pt_iasth (N' := 13) gx272_328 S tl_124 h1004 z2 (fun h_1005 S1005 p1005 q1005 e1005 K1005 => ?_))
        have G1005 := hk_t G K1005
        have I1005 := IV_ua I K1005 e1005 (by decide)
        refine pt_d (pt_1 (fun n d => r_aloadn gx272_329 rfl) ?_)
        refine pt_d (pt_getR gx272_330 S1005 tr_72_69 ?_)
        refine pt_d (pt_iconst gx272_333 (fun v1007 h1007 => ?_))
        refine pt_d (pt_1 (fun n d => r_aloadn gx272_334 rfl) ?_)
        refine pt_d (pt_getR gx272_335 S1005 tr_72_3 ?_)
        refine pt_d (pt_1 (fun n d => r_iloadn gx272_338 rfl) ?_)
        refine pt_d (pt_iald (N' := 150) gx272_339 S1005 tl_73 z1 (fun v1009 p1009 q1009 h1009 => ?_))
        have h1009 : v1009.toInt = vw h 73 a1 := by rw [h1009, e1005, up_c (by decide)]
        refine pt_d (pt_iasth (N' := 13) gx272_340 S1005 tl_124 h1007 h1009 (fun h_1010 S1010 p1010 q1010 e1010 K1010 => ?_))
        have G1010 := hk_t G1005 K1010
        have I1010 := IV_ua I1005 K1010 e1010 (by decide)
        refine pt_d (pt_1 (fun n d => r_aloadn gx272_341 rfl) ?_)
        refine pt_d (pt_getR gx272_342 S1010 tr_72_69 ?_)
        refine pt_d (pt_iconst gx272_345 (fun v1012 h1012 => ?_))
        refine pt_d (pt_1 (fun n d => r_iload gx272_346 rfl) ?_)
        refine pt_d (pt_iasth (N' := 13) gx272_348 S1010 tl_124 h1012 z4 (fun h_1013 S1013 p1013 q1013 e1013 K1013 => ?_))
        have G1013 := hk_t G1010 K1013
        have I1013 := IV_ua I1010 K1013 e1013 (by decide)
        refine pt_d (pt_1 (fun n d => r_aloadn gx272_349 rfl) ?_)
        refine pt_d (pt_getR gx272_350 S1013 tr_72_69 ?_)
        refine pt_d (pt_iconst gx272_353 (fun v1015 h1015 => ?_))
        refine pt_d (pt_1 (fun n d => r_aloadn gx272_354 rfl) ?_)
        refine pt_d (pt_1 (fun n d => r_iloadn gx272_355 rfl) ?_)
        refine pt_d (pt_1 (fun n d => r_iloadn gx272_356 rfl) ?_)
        refine pt_d (pt_iconst gx272_357 (fun v1016 h1016 => ?_))
        refine pt_d (pt_virt (as := [.int x1, .int x2, .int v1016]) (r := [.int v1015, .ref 124]) gx272_358 rfl (show zmt[270]? = some zM270 from rfl) rfl rfl rfl rfl (wk_270 S1013 z1 z2 h1016 I1013) (kqI (fun v1017 y1017 h_1017 h1017 P1017 => ?_)))
        have S1017 := P1017.1
        have G1017 := hk_t G1013 P1017.2.1
        have I1017 := P1017.2.2
        show Pt _ _ _ 361 _ [.int v1017, .int v1015, .ref 124] _ _
        refine pt_d (pt_iasth (N' := 13) gx272_361 S1017 tl_124 h1015 h1017 (fun h_1018 S1018 p1018 q1018 e1018 K1018 => ?_))
        have G1018 := hk_t G1017 K1018
        have I1018 := IV_ua I1017 K1018 e1018 (by decide)
        refine pt_d (pt_1 (fun n d => r_aloadn gx272_362 rfl) ?_)
        refine pt_d (pt_getR gx272_363 S1018 tr_72_69 ?_)
        refine pt_d (pt_iconst gx272_366 (fun v1020 h1020 => ?_))
        refine pt_d (pt_1 (fun n d => r_iload gx272_367 rfl) ?_)
        refine pt_d (pt_if_ne gx272_369 z4 (fun e1021 => ?_) (fun e1021 => ?_))
        · skip
          refine pt_d (pt_bipush gx272_376 (fun v1022 h1022 => ?_))
          refine pt_d (pt_1 (fun n d => r_iload gx272_378 rfl) ?_)
          refine pt_d (pt_imul gx272_380 h1022 z5 (fun v1023 h1023 => ?_))
          refine pt_d (pt_1 (fun n d => r_iload gx272_381 rfl) ?_)
          refine pt_d (pt_idiv gx272_383 h1023 z4 (fun v1024 h1024 => ?_))
          exact ih272_384 h0 h_1018 x1 x2 x3 x4 x5 x6 x7 x8 x9 x10 x11 v1020 v1024 S1018 G1018 I1018
        · skip
          refine pt_d (pt_iconst gx272_372 (fun v1025 h1025 => ?_))
          refine pt_d (pt_1 (fun n d => r_goto gx272_373) ?_)
          exact ih272_384 h0 h_1018 x1 x2 x3 x4 x5 x6 x7 x8 x9 x10 x11 v1020 v1025 S1018 G1018 I1018
      · skip
        refine pt_d (pt_1 (fun n d => r_iload gx272_272 rfl) ?_)
        refine pt_d (pt_1 (fun n d => r_aloadn gx272_274 rfl) ?_)
        refine pt_d (pt_getR gx272_275 S tr_72_3 ?_)
        refine pt_d (pt_1 (fun n d => r_iload gx272_278 rfl) ?_)
        refine pt_d (pt_iald (N' := 150) gx272_280 S tl_73 z11 (fun v1027 p1027 q1027 h1027 => ?_))
        refine pt_d (pt_bipush gx272_281 (fun v1028 h1028 => ?_))
        refine pt_d (pt_icmp_ne gx272_283 h1027 h1028 (fun e1029 => ?_) (fun e1029 => ?_))
        · skip
          exact ih272_312 h0 h x1 x2 x3 x4 x5 x6 x7 x8 x9 x10 x11 x10 S G I
        · skip
          refine pt_d (pt_1 (fun n d => r_aloadn gx272_286 rfl) ?_)
          refine pt_d (pt_1 (fun n d => r_iload gx272_287 rfl) ?_)
          refine pt_d (pt_sipush gx272_289 (fun v1030 h1030 => ?_))
          refine pt_d (pt_1 (fun n d => r_iloadn gx272_292 rfl) ?_)
          refine pt_d (pt_imul gx272_293 h1030 z2 (fun v1031 h1031 => ?_))
          refine pt_d (pt_sipush gx272_294 (fun v1032 h1032 => ?_))
          refine pt_d (pt_iadd gx272_297 h1031 h1032 (fun v1033 h1033 => ?_))
          refine pt_d (pt_iconst gx272_298 (fun v1034 h1034 => ?_))
          refine pt_d (pt_isub gx272_299 h1033 h1034 (fun v1035 h1035 => ?_))
          refine pt_d (pt_1 (fun n d => r_iloadn gx272_300 rfl) ?_)
          refine pt_d (pt_virt (as := [.int x11, .int v1035, .int x3]) (r := [.int x10]) gx272_301 rfl (show zmt[226]? = some zM226 from rfl) rfl rfl rfl rfl (wk_226 S z11 h1035 z3 I) (kqI (fun v1036 y1036 h_1036 h1036 P1036 => ?_)))
          have S1036 := P1036.1
          have G1036 := hk_t G P1036.2.1
          have I1036 := P1036.2.2
          show Pt _ _ _ 304 _ [.int v1036, .int x10] _ _
          refine pt_d (pt_1 (fun n d => r_iloadn gx272_304 rfl) ?_)
          refine pt_d (pt_icmp_ne gx272_305 h1036 z1 (fun e1037 => ?_) (fun e1037 => ?_))
          · skip
            exact ih272_312 h0 h_1036 x1 x2 x3 x4 x5 x6 x7 x8 x9 x10 x11 x10 S1036 G1036 I1036
          · skip
            refine pt_d (pt_iconst gx272_308 (fun v1038 h1038 => ?_))
            refine pt_d (pt_1 (fun n d => r_goto gx272_309) ?_)
            exact ih272_313 h0 h_1036 x1 x2 x3 x4 x5 x6 x7 x8 x9 x10 x11 x10 v1038 S1036 G1036 I1036
    · intro h0 h x1 x2 x3 x4 x5 x6 x7 x8 x9 x10 x11 xs0 S G I
      obtain ⟨a1, z1⟩ : ∃ a : Int, x1.toInt = a := ⟨_, rfl⟩
      obtain ⟨a2, z2⟩ : ∃ a : Int, x2.toInt = a := ⟨_, rfl⟩
      obtain ⟨a3, z3⟩ : ∃ a : Int, x3.toInt = a := ⟨_, rfl⟩
      obtain ⟨a4, z4⟩ : ∃ a : Int, x4.toInt = a := ⟨_, rfl⟩
      obtain ⟨a5, z5⟩ : ∃ a : Int, x5.toInt = a := ⟨_, rfl⟩
      obtain ⟨a6, z6⟩ : ∃ a : Int, x6.toInt = a := ⟨_, rfl⟩
      obtain ⟨a7, z7⟩ : ∃ a : Int, x7.toInt = a := ⟨_, rfl⟩
      obtain ⟨a8, z8⟩ : ∃ a : Int, x8.toInt = a := ⟨_, rfl⟩
      obtain ⟨a9, z9⟩ : ∃ a : Int, x9.toInt = a := ⟨_, rfl⟩
      obtain ⟨a10, z10⟩ : ∃ a : Int, x10.toInt = a := ⟨_, rfl⟩
      obtain ⟨a11, z11⟩ : ∃ a : Int, x11.toInt = a := ⟨_, rfl⟩
      obtain ⟨as0, zs0⟩ : ∃ a : Int, xs0.toInt = a := ⟨_, rfl⟩
      refine pt_iconst gx272_312 (fun v1001 h1001 => ?_)
      exact ih272_313 h0 h x1 x2 x3 x4 x5 x6 x7 x8 x9 x10 x11 xs0 v1001 S G I
    · intro h0 h x1 x2 x3 x4 x5 x6 x7 x8 x9 x10 x11 xs0 xs1 S G I
      obtain ⟨a1, z1⟩ : ∃ a : Int, x1.toInt = a := ⟨_, rfl⟩
      obtain ⟨a2, z2⟩ : ∃ a : Int, x2.toInt = a := ⟨_, rfl⟩
      obtain ⟨a3, z3⟩ : ∃ a : Int, x3.toInt = a := ⟨_, rfl⟩
      obtain ⟨a4, z4⟩ : ∃ a : Int, x4.toInt = a := ⟨_, rfl⟩
      obtain ⟨a5, z5⟩ : ∃ a : Int, x5.toInt = a := ⟨_, rfl⟩
      obtain ⟨a6, z6⟩ : ∃ a : Int, x6.toInt = a := ⟨_, rfl⟩
      obtain ⟨a7, z7⟩ : ∃ a : Int, x7.toInt = a := ⟨_, rfl⟩
      obtain ⟨a8, z8⟩ : ∃ a : Int, x8.toInt = a := ⟨_, rfl⟩
      obtain ⟨a9, z9⟩ : ∃ a : Int, x9.toInt = a := ⟨_, rfl⟩
      obtain ⟨a10, z10⟩ : ∃ a : Int, x10.toInt = a := ⟨_, rfl⟩
      obtain ⟨a11, z11⟩ : ∃ a : Int, x11.toInt = a := ⟨_, rfl⟩
      obtain ⟨as0, zs0⟩ : ∃ a : Int, xs0.toInt = a := ⟨_, rfl⟩
      obtain ⟨as1, zs1⟩ : ∃ a : Int, xs1.toInt = a := ⟨_, rfl⟩
      refine pt_iadd gx272_313 zs0 zs1 (fun v1001 h1001 => ?_)
      refine pt_d (pt_1 (fun n d => r_istore (L' := [some (.ref 72), some (.int x1), some (.int x2), some (.int x3), some (.int x4), some (.int x5), some (.int x6), some (.int x7), some (.int x8), some (.int x9), some (.int v1001), some (.int x11)]) gx272_314 rfl rfl) ?_)
      refine pt_d (pt_iinc (c := 1) gx272_316 rfl z11 (fun v1002 h1002 => ?_))
      show Pt _ _ _ _ [some (.ref 72), some (.int x1), some (.int x2), some (.int x3), some (.int x4), some (.int x5), some (.int x6), some (.int x7), some (.int x8), some (.int x9), some (.int v1001), some (.int v1002)] [] _ _
      refine pt_d (pt_1 (fun n d => r_goto gx272_319) ?_)
      exact ih272_263 h0 h x1 x2 x3 x4 x5 x6 x7 x8 x9 v1001 v1002 S G I
    · intro h0 h x1 x2 x3 x4 x5 x6 x7 x8 x9 x10 x11 xs1 xs2 S G I
      obtain ⟨a1, z1⟩ : ∃ a : Int, x1.toInt = a := ⟨_, rfl⟩
      obtain ⟨a2, z2⟩ : ∃ a : Int, x2.toInt = a := ⟨_, rfl⟩
      obtain ⟨a3, z3⟩ : ∃ a : Int, x3.toInt = a := ⟨_, rfl⟩
      obtain ⟨a4, z4⟩ : ∃ a : Int, x4.toInt = a := ⟨_, rfl⟩
      obtain ⟨a5, z5⟩ : ∃ a : Int, x5.toInt = a := ⟨_, rfl⟩
      obtain ⟨a6, z6⟩ : ∃ a : Int, x6.toInt = a := ⟨_, rfl⟩
      obtain ⟨a7, z7⟩ : ∃ a : Int, x7.toInt = a := ⟨_, rfl⟩
      obtain ⟨a8, z8⟩ : ∃ a : Int, x8.toInt = a := ⟨_, rfl⟩
      obtain ⟨a9, z9⟩ : ∃ a : Int, x9.toInt = a := ⟨_, rfl⟩
      obtain ⟨a10, z10⟩ : ∃ a : Int, x10.toInt = a := ⟨_, rfl⟩
      obtain ⟨a11, z11⟩ : ∃ a : Int, x11.toInt = a := ⟨_, rfl⟩
      obtain ⟨as1, zs1⟩ : ∃ a : Int, xs1.toInt = a := ⟨_, rfl⟩
      obtain ⟨as2, zs2⟩ : ∃ a : Int, xs2.toInt = a := ⟨_, rfl⟩
      refine pt_iasth (N' := 13) gx272_384 S tl_124 zs1 zs2 (fun h_1001 S1001 p1001 q1001 e1001 K1001 => ?_)
      have G1001 := hk_t G K1001
      have I1001 := IV_ua I K1001 e1001 (by decide)
      refine pt_d (pt_1 (fun n d => r_aloadn gx272_385 rfl) ?_)
      refine pt_d (pt_getR gx272_386 S1001 tr_72_69 ?_)
      refine pt_d (pt_iconst gx272_389 (fun v1003 h1003 => ?_))
      refine pt_d (pt_1 (fun n d => r_iload gx272_390 rfl) ?_)
      refine pt_d (pt_iasth (N' := 13) gx272_392 S1001 tl_124 h1003 z7 (fun h_1004 S1004 p1004 q1004 e1004 K1004 => ?_))
      have G1004 := hk_t G1001 K1004
      have I1004 := IV_ua I1001 K1004 e1004 (by decide)
      refine pt_d (pt_1 (fun n d => r_aloadn gx272_393 rfl) ?_)
      refine pt_d (pt_getR gx272_394 S1004 tr_72_69 ?_)
      refine pt_d (pt_bipush gx272_397 (fun v1006 h1006 => ?_))
      refine pt_d (pt_1 (fun n d => r_iload gx272_399 rfl) ?_)
      refine pt_d (pt_if_ne gx272_401 z4 (fun e1007 => ?_) (fun e1007 => ?_))
      · skip
        refine pt_d (pt_bipush gx272_408 (fun v1008 h1008 => ?_))
        refine pt_d (pt_1 (fun n d => r_iload gx272_410 rfl) ?_)
        refine pt_d (pt_imul gx272_412 h1008 z8 (fun v1009 h1009 => ?_))
        refine pt_d (pt_1 (fun n d => r_iload gx272_413 rfl) ?_)
        refine pt_d (pt_idiv gx272_415 h1009 z4 (fun v1010 h1010 => ?_))
        exact ih272_416 h0 h_1004 x1 x2 x3 x4 x5 x6 x7 x8 x9 x10 x11 v1006 v1010 S1004 G1004 I1004
      · skip
        refine pt_d (pt_iconst gx272_404 (fun v1011 h1011 => ?_))
        refine pt_d (pt_1 (fun n d => r_goto gx272_405) ?_)
        exact ih272_416 h0 h_1004 x1 x2 x3 x4 x5 x6 x7 x8 x9 x10 x11 v1006 v1011 S1004 G1004 I1004
    · intro h0 h x1 x2 x3 x4 x5 x6 x7 x8 x9 x10 x11 xs1 xs2 S G I
      obtain ⟨a1, z1⟩ : ∃ a : Int, x1.toInt = a := ⟨_, rfl⟩
      obtain ⟨a2, z2⟩ : ∃ a : Int, x2.toInt = a := ⟨_, rfl⟩
      obtain ⟨a3, z3⟩ : ∃ a : Int, x3.toInt = a := ⟨_, rfl⟩
      obtain ⟨a4, z4⟩ : ∃ a : Int, x4.toInt = a := ⟨_, rfl⟩
      obtain ⟨a5, z5⟩ : ∃ a : Int, x5.toInt = a := ⟨_, rfl⟩
      obtain ⟨a6, z6⟩ : ∃ a : Int, x6.toInt = a := ⟨_, rfl⟩
      obtain ⟨a7, z7⟩ : ∃ a : Int, x7.toInt = a := ⟨_, rfl⟩
      obtain ⟨a8, z8⟩ : ∃ a : Int, x8.toInt = a := ⟨_, rfl⟩
      obtain ⟨a9, z9⟩ : ∃ a : Int, x9.toInt = a := ⟨_, rfl⟩
      obtain ⟨a10, z10⟩ : ∃ a : Int, x10.toInt = a := ⟨_, rfl⟩
      obtain ⟨a11, z11⟩ : ∃ a : Int, x11.toInt = a := ⟨_, rfl⟩
      obtain ⟨as1, zs1⟩ : ∃ a : Int, xs1.toInt = a := ⟨_, rfl⟩
      obtain ⟨as2, zs2⟩ : ∃ a : Int, xs2.toInt = a := ⟨_, rfl⟩
      refine pt_iasth (N' := 13) gx272_416 S tl_124 zs1 zs2 (fun h_1001 S1001 p1001 q1001 e1001 K1001 => ?_)
      have G1001 := hk_t G K1001
      have I1001 := IV_ua I K1001 e1001 (by decide)
      refine pt_d (pt_1 (fun n d => r_aloadn gx272_417 rfl) ?_)
      refine pt_d (pt_getR gx272_418 S1001 tr_72_69 ?_)
      refine pt_d (pt_bipush gx272_421 (fun v1003 h1003 => ?_))
      refine pt_d (pt_1 (fun n d => r_iload gx272_423 rfl) ?_)
      refine pt_d (pt_if_ge gx272_425 z6 (fun e1004 => ?_) (fun e1004 => ?_))
      · skip
        refine pt_d (pt_1 (fun n d => r_aloadn gx272_432 rfl) ?_)
        refine pt_d (pt_1 (fun n d => r_iload gx272_433 rfl) ?_)
        refine pt_d (pt_virt (as := [.int x6]) (r := [.int v1003, .ref 124]) gx272_435 rfl (show zmt[240]? = some zM240 from rfl) rfl rfl rfl rfl (c_240 S1001 z6) (kqP (fun v1005 h1005 => ?_)))
        show Pt _ _ _ 438 _ [.int v1005, .int v1003, .ref 124] _ _
        exact ih272_438 h0 h_1001 x1 x2 x3 x4 x5 x6 x7 x8 x9 x10 x11 v1003 v1005 S1001 G1001 I1001
      · skip
        refine pt_d (pt_iconst gx272_428 (fun v1006 h1006 => ?_))
        refine pt_d (pt_1 (fun n d => r_goto gx272_429) ?_)
        exact ih272_438 h0 h_1001 x1 x2 x3 x4 x5 x6 x7 x8 x9 x10 x11 v1003 v1006 S1001 G1001 I1001
    · intro h0 h x1 x2 x3 x4 x5 x6 x7 x8 x9 x10 x11 xs1 xs2 S G I
      obtain ⟨a1, z1⟩ : ∃ a : Int, x1.toInt = a := ⟨_, rfl⟩
      obtain ⟨a2, z2⟩ : ∃ a : Int, x2.toInt = a := ⟨_, rfl⟩
      obtain ⟨a3, z3⟩ : ∃ a : Int, x3.toInt = a := ⟨_, rfl⟩
      obtain ⟨a4, z4⟩ : ∃ a : Int, x4.toInt = a := ⟨_, rfl⟩
      obtain ⟨a5, z5⟩ : ∃ a : Int, x5.toInt = a := ⟨_, rfl⟩
      obtain ⟨a6, z6⟩ : ∃ a : Int, x6.toInt = a := ⟨_, rfl⟩
      obtain ⟨a7, z7⟩ : ∃ a : Int, x7.toInt = a := ⟨_, rfl⟩
      obtain ⟨a8, z8⟩ : ∃ a : Int, x8.toInt = a := ⟨_, rfl⟩
      obtain ⟨a9, z9⟩ : ∃ a : Int, x9.toInt = a := ⟨_, rfl⟩
      obtain ⟨a10, z10⟩ : ∃ a : Int, x10.toInt = a := ⟨_, rfl⟩
      obtain ⟨a11, z11⟩ : ∃ a : Int, x11.toInt = a := ⟨_, rfl⟩
      obtain ⟨as1, zs1⟩ : ∃ a : Int, xs1.toInt = a := ⟨_, rfl⟩
      obtain ⟨as2, zs2⟩ : ∃ a : Int, xs2.toInt = a := ⟨_, rfl⟩
      refine pt_iasth (N' := 13) gx272_438 S tl_124 zs1 zs2 (fun h_1001 S1001 p1001 q1001 e1001 K1001 => ?_)
      have G1001 := hk_t G K1001
      have I1001 := IV_ua I K1001 e1001 (by decide)
      refine pt_d (pt_1 (fun n d => r_aloadn gx272_439 rfl) ?_)
      refine pt_d (pt_getR gx272_440 S1001 tr_72_69 ?_)
      refine pt_d (pt_bipush gx272_443 (fun v1003 h1003 => ?_))
      refine pt_d (pt_1 (fun n d => r_aloadn gx272_445 rfl) ?_)
      refine pt_d (pt_1 (fun n d => r_iloadn gx272_446 rfl) ?_)
      refine pt_d (pt_1 (fun n d => r_iloadn gx272_447 rfl) ?_)
      refine pt_d (pt_virt (as := [.int x1, .int x2]) (r := [.int v1003, .ref 124]) gx272_448 rfl (show zmt[271]? = some zM271 from rfl) rfl rfl rfl rfl (wk_271 S1001 z1 z2 I1001) (kqI (fun v1004 y1004 h_1004 h1004 P1004 => ?_)))
      have S1004 := P1004.1
      have G1004 := hk_t G1001 P1004.2.1
      have I1004 := P1004.2.2
      show Pt _ _ _ 451 _ [.int v1004, .int v1003, .ref 124] _ _
      refine pt_d (pt_iasth (N' := 13) gx272_451 S1004 tl_124 h1003 h1004 (fun h_1005 S1005 p1005 q1005 e1005 K1005 => ?_))
      have G1005 := hk_t G1004 K1005
      have I1005 := IV_ua I1004 K1005 e1005 (by decide)
      refine pt_d (pt_1 (fun n d => r_aloadn gx272_452 rfl) ?_)
      refine pt_d (pt_getR gx272_453 S1005 tr_72_69 ?_)
      refine pt_d (pt_bipush gx272_456 (fun v1007 h1007 => ?_))
      refine pt_d (pt_1 (fun n d => r_iload gx272_458 rfl) ?_)
      refine pt_d (pt_iasth (N' := 13) gx272_460 S1005 tl_124 h1007 z10 (fun h_1008 S1008 p1008 q1008 e1008 K1008 => ?_))
      have G1008 := hk_t G1005 K1008
      have I1008 := IV_ua I1005 K1008 e1008 (by decide)
      refine pt_d (pt_1 (fun n d => r_aloadn gx272_461 rfl) ?_)
      refine pt_d (pt_getR gx272_462 S1008 tr_72_69 ?_)
      refine pt_d (pt_bipush gx272_465 (fun v1010 h1010 => ?_))
      refine pt_d (pt_iconst gx272_467 (fun v1011 h1011 => ?_))
      refine pt_d (pt_iasth (N' := 13) gx272_468 S1008 tl_124 h1010 h1011 (fun h_1012 S1012 p1012 q1012 e1012 K1012 => ?_))
      have G1012 := hk_t G1008 K1012
      have I1012 := IV_ua I1008 K1012 e1012 (by decide)
      refine pt_d (pt_1 (fun n d => r_aloadn gx272_469 rfl) ?_)
      refine pt_d (pt_getR gx272_470 S1012 tr_72_69 ?_)
      refine pt_d (pt_bipush gx272_473 (fun v1014 h1014 => ?_))
      refine pt_d (pt_1 (fun n d => r_aloadn gx272_475 rfl) ?_)
      refine pt_d (pt_1 (fun n d => r_iloadn gx272_476 rfl) ?_)
      refine pt_d (pt_1 (fun n d => r_iloadn gx272_477 rfl) ?_)
      refine pt_d (pt_1 (fun n d => r_iloadn gx272_478 rfl) ?_)
      refine pt_d (pt_virt (as := [.int x1, .int x2, .int x3]) (r := [.int v1014, .ref 124]) gx272_479 rfl (show zmt[273]? = some zM273 from rfl) rfl rfl rfl rfl (wk_273 S1012 z1 z2 z3 I1012) (kqI (fun v1015 y1015 h_1015 h1015 P1015 => ?_)))
      have S1015 := P1015.1
      have G1015 := hk_t G1012 P1015.2.1
      have I1015 := P1015.2.2
      show Pt _ _ _ 482 _ [.int v1015, .int v1014, .ref 124] _ _
      refine pt_d (pt_if_eq gx272_482 h1015 (fun e1016 => ?_) (fun e1016 => ?_))
      · skip
        refine pt_d (pt_iconst gx272_489 (fun v1017 h1017 => ?_))
        exact ih272_490 h0 h_1015 x1 x2 x3 x4 x5 x6 x7 x8 x9 x10 x11 v1014 v1017 S1015 G1015 I1015
      · skip
        refine pt_d (pt_iconst gx272_485 (fun v1018 h1018 => ?_))
        refine pt_d (pt_1 (fun n d => r_goto gx272_486) ?_)
        exact ih272_490 h0 h_1015 x1 x2 x3 x4 x5 x6 x7 x8 x9 x10 x11 v1014 v1018 S1015 G1015 I1015
    · intro h0 h x1 x2 x3 x4 x5 x6 x7 x8 x9 x10 x11 xs1 xs2 S G I
      obtain ⟨a1, z1⟩ : ∃ a : Int, x1.toInt = a := ⟨_, rfl⟩
      obtain ⟨a2, z2⟩ : ∃ a : Int, x2.toInt = a := ⟨_, rfl⟩
      obtain ⟨a3, z3⟩ : ∃ a : Int, x3.toInt = a := ⟨_, rfl⟩
      obtain ⟨a4, z4⟩ : ∃ a : Int, x4.toInt = a := ⟨_, rfl⟩
      obtain ⟨a5, z5⟩ : ∃ a : Int, x5.toInt = a := ⟨_, rfl⟩
      obtain ⟨a6, z6⟩ : ∃ a : Int, x6.toInt = a := ⟨_, rfl⟩
      obtain ⟨a7, z7⟩ : ∃ a : Int, x7.toInt = a := ⟨_, rfl⟩
      obtain ⟨a8, z8⟩ : ∃ a : Int, x8.toInt = a := ⟨_, rfl⟩
      obtain ⟨a9, z9⟩ : ∃ a : Int, x9.toInt = a := ⟨_, rfl⟩
      obtain ⟨a10, z10⟩ : ∃ a : Int, x10.toInt = a := ⟨_, rfl⟩
      obtain ⟨a11, z11⟩ : ∃ a : Int, x11.toInt = a := ⟨_, rfl⟩
      obtain ⟨as1, zs1⟩ : ∃ a : Int, xs1.toInt = a := ⟨_, rfl⟩
      obtain ⟨as2, zs2⟩ : ∃ a : Int, xs2.toInt = a := ⟨_, rfl⟩
      refine pt_iasth (N' := 13) gx272_490 S tl_124 zs1 zs2 (fun h_1001 S1001 p1001 q1001 e1001 K1001 => ?_)
      have G1001 := hk_t G K1001
      have I1001 := IV_ua I K1001 e1001 (by decide)
      refine pt_d (pt_1 (fun n d => r_aloadn gx272_491 rfl) ?_)
      refine pt_d (pt_getR gx272_492 S1001 tr_72_69 ?_)
      refine pt_d (pt_bipush gx272_495 (fun v1003 h1003 => ?_))
      refine pt_d (pt_1 (fun n d => r_iload gx272_497 rfl) ?_)
      refine pt_d (pt_iasth (N' := 13) gx272_499 S1001 tl_124 h1003 z9 (fun h_1004 S1004 p1004 q1004 e1004 K1004 => ?_))
      have G1004 := hk_t G1001 K1004
      have I1004 := IV_ua I1001 K1004 e1004 (by decide)
      exact pt_d (pt_vret gx272_500 ⟨rfl, S1004, G1004, I1004⟩)
theorem wk_272 {n : Nat} {X : aX} {h : aH} {x1 : Int32} {x2 : Int32} {x3 : Int32} {a1 : Int} {a2 : Int} {a3 : Int} (S : wS h) (z1 : x1.toInt = a1) (z2 : x2.toInt = a2) (z3 : x3.toInt = a3) (I : IV h) : Pt n X zM272 0 [some (.ref 72), some (.int x1), some (.int x2), some (.int x3), none, none, none, none, none, none, none, none] [] h (qN (fun h' => wS h' ∧ hk h h' ∧ IV h')) := (wl_272 n).1 h h x1 x2 x3 S (hk_r h) I
theorem wl_274 {X : aX} : ∀ n : Nat, (∀ (h0 h : aH) (x1 : Int32) (x2 : Int32) (x3 : Int32) (x4 : Int32), wS h → hk h0 h → IV h → Pt n X zM274 0 [some (.ref 72), some (.int x1), some (.int x2), some (.int x3), some (.int x4)] [] h (qI (fun _ h' => wS h' ∧ hk h0 h' ∧ IV h'))) := by
  intro n
  induction n with
  | zero => refine ?_ <;> (intros; exact pt_z)
  | succ n ih =>
    have ih274_0 := ih
    refine ?_
    · intro h0 h x1 x2 x3 x4 S G I
      obtain ⟨a1, z1⟩ : ∃ a : Int, x1.toInt = a := ⟨_, rfl⟩
      obtain ⟨a2, z2⟩ : ∃ a : Int, x2.toInt = a := ⟨_, rfl⟩
      obtain ⟨a3, z3⟩ : ∃ a : Int, x3.toInt = a := ⟨_, rfl⟩
      obtain ⟨a4, z4⟩ : ∃ a : Int, x4.toInt = a := ⟨_, rfl⟩
      refine pt_1 (fun n d => r_aloadn gx274_0 rfl) ?_
      refine pt_d (pt_1 (fun n d => r_iloadn gx274_1 rfl) ?_)
      refine pt_d (pt_virt (as := [.int x1]) (r := []) gx274_2 rfl (show zmt[202]? = some zM202 from rfl) rfl rfl rfl rfl (c_202 S z1) (kqP (fun v1001 h1001 => ?_)))
      show Pt _ _ _ 5 _ [.int v1001] _ _
      refine pt_d (pt_ifB_eq gx274_5 h1001 (fun e1002 => ?_) (fun e1002 => ?_))
      · skip
        refine pt_d (pt_iconst gx274_33 (fun v1003 h1003 => ?_))
        exact pt_d (pt_iret gx274_34 ⟨_, rfl, S, G, I⟩)
      · skip
        refine pt_d (pt_1 (fun n d => r_iloadn gx274_8 rfl) ?_)
        refine pt_d (pt_stat (as := [.int x2]) (r := []) gx274_9 rfl (show zmt[198]? = some zM198 from rfl) rfl rfl rfl rfl (c_198 S z2) (kqP (fun v1004 h1004 => ?_)))
        show Pt _ _ _ 12 _ [.int v1004] _ _
        refine pt_d (pt_ifB_eq gx274_12 h1004 (fun e1005 => ?_) (fun e1005 => ?_))
        · skip
          refine pt_d (pt_iconst gx274_33 (fun v1006 h1006 => ?_))
          exact pt_d (pt_iret gx274_34 ⟨_, rfl, S, G, I⟩)
        · skip
          refine pt_d (pt_1 (fun n d => r_iloadn gx274_15 rfl) ?_)
          refine pt_d (pt_stat (as := [.int x3]) (r := []) gx274_16 rfl (show zmt[197]? = some zM197 from rfl) rfl rfl rfl rfl (c_197 S z3) (kqP (fun v1007 h1007 => ?_)))
          show Pt _ _ _ 19 _ [.int v1007] _ _
          refine pt_d (pt_ifB_eq gx274_19 h1007 (fun e1008 => ?_) (fun e1008 => ?_))
          · skip
            refine pt_d (pt_iconst gx274_33 (fun v1009 h1009 => ?_))
            exact pt_d (pt_iret gx274_34 ⟨_, rfl, S, G, I⟩)
          · skip
            refine pt_d (pt_1 (fun n d => r_iload gx274_22 rfl) ?_)
            refine pt_d (pt_iconst gx274_24 (fun v1010 h1010 => ?_))
            refine pt_d (pt_bipush gx274_25 (fun v1011 h1011 => ?_))
            refine pt_d (pt_stat (as := [.int x4, .int v1010, .int v1011]) (r := []) gx274_27 rfl (show zmt[196]? = some zM196 from rfl) rfl rfl rfl rfl (c_196 S z4 h1010 h1011) (kqP (fun v1012 h1012 => ?_)))
            show Pt _ _ _ 30 _ [.int v1012] _ _
            refine pt_d (pt_ifB_ne gx274_30 h1012 (fun e1013 => ?_) (fun e1013 => ?_))
            · skip
              refine pt_d (pt_1 (fun n d => r_aloadn gx274_35 rfl) ?_)
              refine pt_d (pt_1 (fun n d => r_iloadn gx274_36 rfl) ?_)
              refine pt_d (pt_1 (fun n d => r_iloadn gx274_37 rfl) ?_)
              refine pt_d (pt_1 (fun n d => r_iloadn gx274_38 rfl) ?_)
              refine pt_d (pt_virt (as := [.int x1, .int x2, .int x3]) (r := []) gx274_39 rfl (show zmt[272]? = some zM272 from rfl) rfl rfl rfl rfl (wk_272 S z1 z2 z3 I) (kqN (fun h_1014 P1014 => ?_)))
              have S1014 := P1014.1
              have G1014 := hk_t G P1014.2.1
              have I1014 := P1014.2.2
              show Pt _ _ _ 42 _ [] _ _
              refine pt_d (pt_1 (fun n d => r_aloadn gx274_42 rfl) ?_)
              refine pt_d (pt_getR gx274_43 S1014 tr_72_69 ?_)
              refine pt_d (pt_1 (fun n d => r_iload gx274_46 rfl) ?_)
              refine pt_d (pt_iald (N' := 13) gx274_48 S1014 tl_124 z4 (fun v1016 p1016 q1016 h1016 => ?_))
              exact pt_d (pt_iret gx274_49 ⟨_, rfl, S1014, G1014, I1014⟩)
            · skip
              refine pt_d (pt_iconst gx274_33 (fun v1017 h1017 => ?_))
              exact pt_d (pt_iret gx274_34 ⟨_, rfl, S, G, I⟩)
theorem wk_274 {n : Nat} {X : aX} {h : aH} {x1 : Int32} {x2 : Int32} {x3 : Int32} {x4 : Int32} {a1 : Int} {a2 : Int} {a3 : Int} {a4 : Int} (S : wS h) (z1 : x1.toInt = a1) (z2 : x2.toInt = a2) (z3 : x3.toInt = a3) (z4 : x4.toInt = a4) (I : IV h) : Pt n X zM274 0 [some (.ref 72), some (.int x1), some (.int x2), some (.int x3), some (.int x4)] [] h (qI (fun _ h' => wS h' ∧ hk h h' ∧ IV h')) := (wl_274 n) h h x1 x2 x3 x4 S (hk_r h) I
theorem wl_275 {X : aX} : ∀ n : Nat, (∀ (h0 h : aH) (x1 : Int32) (x2 : Int32) (x3 : Int32) (x4 : Int32), wS h → hk h0 h → IV h → Pt n X zM275 0 [some (.ref 72), some (.int x1), some (.int x2), some (.int x3), some (.int x4), none, none, none, none, none] [] h (qJ (fun _ h' => wS h' ∧ hk h0 h' ∧ IV h'))) ∧
    (∀ (h0 h : aH) (x1 : Int32) (x2 : Int32) (x3 : Int32) (x4 : Int32) (x5 : Int32), wS h → hk h0 h → IV h → Pt n X zM275 3 [some (.ref 72), some (.int x1), some (.int x2), some (.int x3), some (.int x4), some (.int x5), none, none, none, none] [] h (qJ (fun _ h' => wS h' ∧ hk h0 h' ∧ IV h'))) ∧
    (∀ (h0 h : aH) (x1 : Int32) (x2 : Int32) (x3 : Int32) (x4 : Int32) (x5 : Int32) (xs1 : Int32), wS h → hk h0 h → IV h → Pt n X zM275 52 [some (.ref 72), some (.int x1), some (.int x2), some (.int x3), some (.int x4), some (.int x5), none, none, none, none] [.int xs1, .ref 127] h (qJ (fun _ h' => wS h' ∧ hk h0 h' ∧ IV h'))) ∧
    (∀ (h0 h : aH) (x1 : Int32) (x2 : Int32) (x3 : Int32) (x4 : Int32) (x5 : Int32) (xs1 : Int32) (xs2 : Int32), wS h → hk h0 h → IV h → Pt n X zM275 57 [some (.ref 72), some (.int x1), some (.int x2), some (.int x3), some (.int x4), some (.int x5), none, none, none, none] [.int xs2, .int xs1, .ref 127] h (qJ (fun _ h' => wS h' ∧ hk h0 h' ∧ IV h'))) ∧
    (∀ (h0 h : aH) (x1 : Int32) (x2 : Int32) (x3 : Int32) (x4 : Int32) (x5 : Int64) (x7 : Int32) (u8 : Option Value) (u9 : Option Value), wS h → hk h0 h → IV h → Pt n X zM275 71 [some (.ref 72), some (.int x1), some (.int x2), some (.int x3), some (.int x4), some (.long x5), none, some (.int x7), u8, u9] [] h (qJ (fun _ h' => wS h' ∧ hk h0 h' ∧ IV h'))) ∧
    (∀ (h0 h : aH) (x1 : Int32) (x2 : Int32) (x3 : Int32) (x4 : Int32) (x5 : Int64) (x7 : Int32) (x8 : Int32) (x9 : Int32), wS h → hk h0 h → IV h → Pt n X zM275 82 [some (.ref 72), some (.int x1), some (.int x2), some (.int x3), some (.int x4), some (.long x5), none, some (.int x7), some (.int x8), some (.int x9)] [] h (qJ (fun _ h' => wS h' ∧ hk h0 h' ∧ IV h'))) ∧
    (∀ (h0 h : aH) (x1 : Int32) (x2 : Int32) (x3 : Int32) (x4 : Int32) (x5 : Int64) (x7 : Int32) (x8 : Int32) (x9 : Int32), wS h → hk h0 h → IV h → Pt n X zM275 123 [some (.ref 72), some (.int x1), some (.int x2), some (.int x3), some (.int x4), some (.long x5), none, some (.int x7), some (.int x8), some (.int x9)] [] h (qJ (fun _ h' => wS h' ∧ hk h0 h' ∧ IV h'))) ∧
    (∀ (h0 h : aH) (x1 : Int32) (x2 : Int32) (x3 : Int32) (x4 : Int32) (x5 : Int64) (x7 : Int32) (x8 : Int32) (x9 : Int32), wS h → hk h0 h → IV h → Pt n X zM275 127 [some (.ref 72), some (.int x1), some (.int x2), some (.int x3), some (.int x4), some (.long x5), none, some (.int x7), some (.int x8), some (.int x9)] [] h (qJ (fun _ h' => wS h' ∧ hk h0 h' ∧ IV h'))) := by
  intro n
  induction n with
  | zero => refine ⟨?_, ?_, ?_, ?_, ?_, ?_, ?_, ?_⟩ <;> (intros; exact pt_z)
  | succ n ih =>
    obtain ⟨ih275_0, ih275_3, ih275_52, ih275_57, ih275_71, ih275_82, ih275_123, ih275_127⟩ := ih
    refine ⟨?_, ?_, ?_, ?_, ?_, ?_, ?_, ?_⟩
    · intro h0 h x1 x2 x3 x4 S G I
      obtain ⟨a1, z1⟩ : ∃ a : Int, x1.toInt = a := ⟨_, rfl⟩
      obtain ⟨a2, z2⟩ : ∃ a : Int, x2.toInt = a := ⟨_, rfl⟩
      obtain ⟨a3, z3⟩ : ∃ a : Int, x3.toInt = a := ⟨_, rfl⟩
      obtain ⟨a4, z4⟩ : ∃ a : Int, x4.toInt = a := ⟨_, rfl⟩
      refine pt_iconst gx275_0 (fun v1001 h1001 => ?_)
      refine pt_d (pt_1 (fun n d => r_istore (L' := [some (.ref 72), some (.int x1), some (.int x2), some (.int x3), some (.int x4), some (.int v1001), none, none, none, none]) gx275_1 rfl rfl) ?_)
      exact ih275_3 h0 h x1 x2 x3 x4 v1001 S G I
    · intro h0 h x1 x2 x3 x4 x5 S G I
      obtain ⟨a1, z1⟩ : ∃ a : Int, x1.toInt = a := ⟨_, rfl⟩
      obtain ⟨a2, z2⟩ : ∃ a : Int, x2.toInt = a := ⟨_, rfl⟩
      obtain ⟨a3, z3⟩ : ∃ a : Int, x3.toInt = a := ⟨_, rfl⟩
      obtain ⟨a4, z4⟩ : ∃ a : Int, x4.toInt = a := ⟨_, rfl⟩
      obtain ⟨a5, z5⟩ : ∃ a : Int, x5.toInt = a := ⟨_, rfl⟩
      refine pt_1 (fun n d => r_iload gx275_3 rfl) ?_
      refine pt_d (pt_1 (fun n d => r_aloadn gx275_5 rfl) ?_)
      refine pt_d (pt_getI (B := 2) gx275_6 S (fun v1001 h1001 => ?_))
      refine pt_d (pt_icmp_ge gx275_9 z5 h1001 (fun e1002 => ?_) (fun e1002 => ?_))
      · skip
        refine pt_d (pt_lconst (c := 0) gx275_64 rfl (fun v1003 h1003 => ?_))
        refine pt_d (pt_1 (fun n d => r_lstore (L' := [some (.ref 72), some (.int x1), some (.int x2), some (.int x3), some (.int x4), some (.long v1003), none, none, none, none]) gx275_65 rfl rfl) ?_)
        refine pt_d (pt_1 (fun n d => r_iload gx275_67 rfl) ?_)
        refine pt_d (pt_1 (fun n d => r_istore (L' := [some (.ref 72), some (.int x1), some (.int x2), some (.int x3), some (.int x4), some (.long v1003), none, some (.int x4), none, none]) gx275_69 rfl rfl) ?_)
        exact ih275_71 h0 h x1 x2 x3 x4 v1003 x4 _ _ S G I
      · skip
        refine pt_d (pt_1 (fun n d => r_aloadn gx275_12 rfl) ?_)
        refine pt_d (pt_getR gx275_13 S tr_72_73 ?_)
        refine pt_d (pt_1 (fun n d => r_iload gx275_16 rfl) ?_)
        refine pt_d (pt_1 (fun n d => r_aloadn gx275_18 rfl) ?_)
        refine pt_d (pt_getR gx275_19 S tr_72_3 ?_)
        refine pt_d (pt_1 (fun n d => r_iload gx275_22 rfl) ?_)
        refine pt_d (pt_iald (N' := 150) gx275_24 S tl_73 z5 (fun v1006 p1006 q1006 h1006 => ?_))
        refine pt_d (pt_bipush gx275_25 (fun v1007 h1007 => ?_))
        refine pt_d (pt_icmp_ne gx275_27 h1006 h1007 (fun e1008 => ?_) (fun e1008 => ?_))
        · skip
          exact ih275_52 h0 h x1 x2 x3 x4 x5 x5 S G I
        · skip
          refine pt_d (pt_1 (fun n d => r_aloadn gx275_30 rfl) ?_)
          refine pt_d (pt_1 (fun n d => r_iload gx275_31 rfl) ?_)
          refine pt_d (pt_sipush gx275_33 (fun v1009 h1009 => ?_))
          refine pt_d (pt_1 (fun n d => r_iloadn gx275_36 rfl) ?_)
          refine pt_d (pt_imul gx275_37 h1009 z2 (fun v1010 h1010 => ?_))
          refine pt_d (pt_sipush gx275_38 (fun v1011 h1011 => ?_))
          refine pt_d (pt_iadd gx275_41 h1010 h1011 (fun v1012 h1012 => ?_))
          refine pt_d (pt_iconst gx275_42 (fun v1013 h1013 => ?_))
          refine pt_d (pt_isub gx275_43 h1012 h1013 (fun v1014 h1014 => ?_))
          refine pt_d (pt_1 (fun n d => r_iloadn gx275_44 rfl) ?_)
          refine pt_d (pt_virt (as := [.int x5, .int v1014, .int x3]) (r := [.int x5, .ref 127]) gx275_45 rfl (show zmt[226]? = some zM226 from rfl) rfl rfl rfl rfl (wk_226 S z5 h1014 z3 I) (kqI (fun v1015 y1015 h_1015 h1015 P1015 => ?_)))
          have S1015 := P1015.1
          have G1015 := hk_t G P1015.2.1
          have I1015 := P1015.2.2
          show Pt _ _ _ 48 _ [.int v1015, .int x5, .ref 127] _ _
          refine pt_d (pt_1 (fun n d => r_iloadn gx275_48 rfl) ?_)
          refine pt_d (pt_icmp_eq gx275_49 h1015 z1 (fun e1016 => ?_) (fun e1016 => ?_))
          · skip
            refine pt_d (pt_iconst gx275_56 (fun v1017 h1017 => ?_))
            exact ih275_57 h0 h_1015 x1 x2 x3 x4 x5 x5 v1017 S1015 G1015 I1015
          · skip
            exact ih275_52 h0 h_1015 x1 x2 x3 x4 x5 x5 S1015 G1015 I1015
    · intro h0 h x1 x2 x3 x4 x5 xs1 S G I
      obtain ⟨a1, z1⟩ : ∃ a : Int, x1.toInt = a := ⟨_, rfl⟩
      obtain ⟨a2, z2⟩ : ∃ a : Int, x2.toInt = a := ⟨_, rfl⟩
      obtain ⟨a3, z3⟩ : ∃ a : Int, x3.toInt = a := ⟨_, rfl⟩
      obtain ⟨a4, z4⟩ : ∃ a : Int, x4.toInt = a := ⟨_, rfl⟩
      obtain ⟨a5, z5⟩ : ∃ a : Int, x5.toInt = a := ⟨_, rfl⟩
      obtain ⟨as1, zs1⟩ : ∃ a : Int, xs1.toInt = a := ⟨_, rfl⟩
      refine pt_iconst gx275_52 (fun v1001 h1001 => ?_)
      refine pt_d (pt_1 (fun n d => r_goto gx275_53) ?_)
      exact ih275_57 h0 h x1 x2 x3 x4 x5 xs1 v1001 S G I
    · intro h0 h x1 x2 x3 x4 x5 xs1 xs2 S G I
      obtain ⟨a1, z1⟩ : ∃ a : Int, x1.toInt = a := ⟨_, rfl⟩
      obtain ⟨a2, z2⟩ : ∃ a : Int, x2.toInt = a := ⟨_, rfl⟩
      obtain ⟨a3, z3⟩ : ∃ a : Int, x3.toInt = a := ⟨_, rfl⟩
      obtain ⟨a4, z4⟩ : ∃ a : Int, x4.toInt = a := ⟨_, rfl⟩
      obtain ⟨a5, z5⟩ : ∃ a : Int, x5.toInt = a := ⟨_, rfl⟩
      obtain ⟨as1, zs1⟩ : ∃ a : Int, xs1.toInt = a := ⟨_, rfl⟩
      obtain ⟨as2, zs2⟩ : ∃ a : Int, xs2.toInt = a := ⟨_, rfl⟩
      refine pt_zasth (N' := 150) gx275_57 S tl_127 zs1 zs2 (fun h_1001 S1001 p1001 q1001 e1001 K1001 => ?_)
      have G1001 := hk_t G K1001
      have I1001 := IV_ua I K1001 e1001 (by decide)
      refine pt_d (pt_iinc (c := 1) gx275_58 rfl z5 (fun v1002 h1002 => ?_))
      show Pt _ _ _ _ [some (.ref 72), some (.int x1), some (.int x2), some (.int x3), some (.int x4), some (.int v1002), none, none, none, none] [] _ _
      refine pt_d (pt_1 (fun n d => r_goto gx275_61) ?_)
      exact ih275_3 h0 h_1001 x1 x2 x3 x4 v1002 S1001 G1001 I1001
    · intro h0 h x1 x2 x3 x4 x5 x7 u8 u9 S G I
      obtain ⟨a1, z1⟩ : ∃ a : Int, x1.toInt = a := ⟨_, rfl⟩
      obtain ⟨a2, z2⟩ : ∃ a : Int, x2.toInt = a := ⟨_, rfl⟩
      obtain ⟨a3, z3⟩ : ∃ a : Int, x3.toInt = a := ⟨_, rfl⟩
      obtain ⟨a4, z4⟩ : ∃ a : Int, x4.toInt = a := ⟨_, rfl⟩
      obtain ⟨a5, z5⟩ : ∃ a : Int, x5.toInt = a := ⟨_, rfl⟩
      obtain ⟨a7, z7⟩ : ∃ a : Int, x7.toInt = a := ⟨_, rfl⟩
      refine pt_1 (fun n d => r_iload gx275_71 rfl) ?_
      refine pt_d (pt_if_le gx275_73 z7 (fun e1001 => ?_) (fun e1001 => ?_))
      · skip
        refine pt_d (pt_1 (fun n d => r_lload gx275_169 rfl) ?_)
        exact pt_d (pt_lret gx275_171 ⟨_, rfl, S, G, I⟩)
      · skip
        refine pt_d (pt_iconst gx275_76 (fun v1002 h1002 => ?_))
        refine pt_d (pt_1 (fun n d => r_istore (L' := [some (.ref 72), some (.int x1), some (.int x2), some (.int x3), some (.int x4), some (.long x5), none, some (.int x7), some (.int v1002), u9]) gx275_77 rfl rfl) ?_)
        refine pt_d (pt_iconst gx275_79 (fun v1003 h1003 => ?_))
        refine pt_d (pt_1 (fun n d => r_istore (L' := [some (.ref 72), some (.int x1), some (.int x2), some (.int x3), some (.int x4), some (.long x5), none, some (.int x7), some (.int v1002), some (.int v1003)]) gx275_80 rfl rfl) ?_)
        exact ih275_82 h0 h x1 x2 x3 x4 x5 x7 v1002 v1003 S G I
    · intro h0 h x1 x2 x3 x4 x5 x7 x8 x9 S G I
      obtain ⟨a1, z1⟩ : ∃ a : Int, x1.toInt = a := ⟨_, rfl⟩
      obtain ⟨a2, z2⟩ : ∃ a : Int, x2.toInt = a := ⟨_, rfl⟩
      obtain ⟨a3, z3⟩ : ∃ a : Int, x3.toInt = a := ⟨_, rfl⟩
      obtain ⟨a4, z4⟩ : ∃ a : Int, x4.toInt = a := ⟨_, rfl⟩
      obtain ⟨a5, z5⟩ : ∃ a : Int, x5.toInt = a := ⟨_, rfl⟩
      obtain ⟨a7, z7⟩ : ∃ a : Int, x7.toInt = a := ⟨_, rfl⟩
      obtain ⟨a8, z8⟩ : ∃ a : Int, x8.toInt = a := ⟨_, rfl⟩
      obtain ⟨a9, z9⟩ : ∃ a : Int, x9.toInt = a := ⟨_, rfl⟩
      refine pt_1 (fun n d => r_iload gx275_82 rfl) ?_
      refine pt_d (pt_1 (fun n d => r_aloadn gx275_84 rfl) ?_)
      refine pt_d (pt_getI (B := 2) gx275_85 S (fun v1001 h1001 => ?_))
      refine pt_d (pt_icmp_ge gx275_88 z9 h1001 (fun e1002 => ?_) (fun e1002 => ?_))
      · skip
        refine pt_d (pt_1 (fun n d => r_aloadn gx275_133 rfl) ?_)
        refine pt_d (pt_getR gx275_134 S tr_72_73 ?_)
        refine pt_d (pt_1 (fun n d => r_iload gx275_137 rfl) ?_)
        refine pt_d (pt_iconst gx275_139 (fun v1004 h1004 => ?_))
        refine pt_d (pt_zasth (N' := 150) gx275_140 S tl_127 z8 h1004 (fun h_1005 S1005 p1005 q1005 e1005 K1005 => ?_))
        have G1005 := hk_t G K1005
        have I1005 := IV_ua I K1005 e1005 (by decide)
        refine pt_d (pt_1 (fun n d => r_lload gx275_141 rfl) ?_)
        refine pt_d (pt_1 (fun n d => r_aloadn gx275_143 rfl) ?_)
        refine pt_d (pt_getR gx275_144 S1005 tr_72_9 ?_)
        refine pt_d (pt_1 (fun n d => r_iload gx275_147 rfl) ?_)
        refine pt_d (pt_iald (N' := 150) gx275_149 S1005 tl_79 z8 (fun v1007 p1007 q1007 h1007 => ?_))
        have h1007 : v1007.toInt = vw h 79 a8 := by rw [h1007, e1005, up_c (by decide)]
        refine pt_d (pt_i2l gx275_150 h1007 (fun v1008 h1008 => ?_))
        refine pt_d (pt_bipush gx275_151 (fun v1009 h1009 => ?_))
        refine pt_d (pt_1 (fun n d => r_iload gx275_153 rfl) ?_)
        refine pt_d (pt_stat (as := [.int v1009, .int x7]) (r := [.long v1008, .long x5]) gx275_155 rfl (show zmt[211]? = some zM211 from rfl) rfl rfl rfl rfl (c_211 S1005 h1009 z7) (kqP (fun v1010 h1010 => ?_)))
        show Pt _ _ _ 158 _ [.int v1010, .long v1008, .long x5] _ _
        refine pt_d (pt_i2l gx275_158 h1010 (fun v1011 h1011 => ?_))
        refine pt_d (pt_lmul gx275_159 h1008 h1011 (fun v1012 h1012 => ?_))
        refine pt_d (pt_ladd gx275_160 z5 h1012 (fun v1013 h1013 => ?_))
        refine pt_d (pt_1 (fun n d => r_lstore (L' := [some (.ref 72), some (.int x1), some (.int x2), some (.int x3), some (.int x4), some (.long v1013), none, some (.int x7), some (.int x8), some (.int x9)]) gx275_161 rfl rfl) ?_)
        refine pt_d (pt_iinc (c := (-10)) gx275_163 rfl z7 (fun v1014 h1014 => ?_))
        show Pt _ _ _ _ [some (.ref 72), some (.int x1), some (.int x2), some (.int x3), some (.int x4), some (.long v1013), none, some (.int v1014), some (.int x8), some (.int x9)] [] _ _
        refine pt_d (pt_1 (fun n d => r_goto gx275_166) ?_)
        exact ih275_71 h0 h_1005 x1 x2 x3 x4 v1013 v1014 _ _ S1005 G1005 I1005
      · skip
        refine pt_d (pt_1 (fun n d => r_aloadn gx275_91 rfl) ?_)
        refine pt_d (pt_getR gx275_92 S tr_72_73 ?_)
        refine pt_d (pt_1 (fun n d => r_iload gx275_95 rfl) ?_)
        refine pt_d (pt_zald (N' := 150) gx275_97 S tl_127 z9 (fun v1016 p1016 q1016 h1016 => ?_))
        refine pt_d (pt_if_ne gx275_98 h1016 (fun e1017 => ?_) (fun e1017 => ?_))
        · skip
          exact ih275_127 h0 h x1 x2 x3 x4 x5 x7 x8 x9 S G I
        · skip
          refine pt_d (pt_1 (fun n d => r_iload gx275_101 rfl) ?_)
          refine pt_d (pt_if_lt gx275_103 z8 (fun e1018 => ?_) (fun e1018 => ?_))
          · skip
            exact ih275_123 h0 h x1 x2 x3 x4 x5 x7 x8 x9 S G I
          · skip
            refine pt_d (pt_1 (fun n d => r_aloadn gx275_106 rfl) ?_)
            refine pt_d (pt_getR gx275_107 S tr_72_9 ?_)
            refine pt_d (pt_1 (fun n d => r_iload gx275_110 rfl) ?_)
            refine pt_d (pt_iald (N' := 150) gx275_112 S tl_79 z9 (fun v1020 p1020 q1020 h1020 => ?_))
            refine pt_d (pt_1 (fun n d => r_aloadn gx275_113 rfl) ?_)
            refine pt_d (pt_getR gx275_114 S tr_72_9 ?_)
            refine pt_d (pt_1 (fun n d => r_iload gx275_117 rfl) ?_)
            refine pt_d (pt_iald (N' := 150) gx275_119 S tl_79 z8 (fun v1022 p1022 q1022 h1022 => ?_))
            refine pt_d (pt_icmp_le gx275_120 h1020 h1022 (fun e1023 => ?_) (fun e1023 => ?_))
            · skip
              exact ih275_127 h0 h x1 x2 x3 x4 x5 x7 x8 x9 S G I
            · skip
              exact ih275_123 h0 h x1 x2 x3 x4 x5 x7 x8 x9 S G I
    · intro h0 h x1 x2 x3 x4 x5 x7 x8 x9 S G I
      obtain ⟨a1, z1⟩ : ∃ a : Int, x1.toInt = a := ⟨_, rfl⟩
      obtain ⟨a2, z2⟩ : ∃ a : Int, x2.toInt = a := ⟨_, rfl⟩
      obtain ⟨a3, z3⟩ : ∃ a : Int, x3.toInt = a := ⟨_, rfl⟩
      obtain ⟨a4, z4⟩ : ∃ a : Int, x4.toInt = a := ⟨_, rfl⟩
      obtain ⟨a5, z5⟩ : ∃ a : Int, x5.toInt = a := ⟨_, rfl⟩
      obtain ⟨a7, z7⟩ : ∃ a : Int, x7.toInt = a := ⟨_, rfl⟩
      obtain ⟨a8, z8⟩ : ∃ a : Int, x8.toInt = a := ⟨_, rfl⟩
      obtain ⟨a9, z9⟩ : ∃ a : Int, x9.toInt = a := ⟨_, rfl⟩
      refine pt_1 (fun n d => r_iload gx275_123 rfl) ?_
      refine pt_d (pt_1 (fun n d => r_istore (L' := [some (.ref 72), some (.int x1), some (.int x2), some (.int x3), some (.int x4), some (.long x5), none, some (.int x7), some (.int x9), some (.int x9)]) gx275_125 rfl rfl) ?_)
      exact ih275_127 h0 h x1 x2 x3 x4 x5 x7 x9 x9 S G I
    · intro h0 h x1 x2 x3 x4 x5 x7 x8 x9 S G I
      obtain ⟨a1, z1⟩ : ∃ a : Int, x1.toInt = a := ⟨_, rfl⟩
      obtain ⟨a2, z2⟩ : ∃ a : Int, x2.toInt = a := ⟨_, rfl⟩
      obtain ⟨a3, z3⟩ : ∃ a : Int, x3.toInt = a := ⟨_, rfl⟩
      obtain ⟨a4, z4⟩ : ∃ a : Int, x4.toInt = a := ⟨_, rfl⟩
      obtain ⟨a5, z5⟩ : ∃ a : Int, x5.toInt = a := ⟨_, rfl⟩
      obtain ⟨a7, z7⟩ : ∃ a : Int, x7.toInt = a := ⟨_, rfl⟩
      obtain ⟨a8, z8⟩ : ∃ a : Int, x8.toInt = a := ⟨_, rfl⟩
      obtain ⟨a9, z9⟩ : ∃ a : Int, x9.toInt = a := ⟨_, rfl⟩
      refine pt_iinc (c := 1) gx275_127 rfl z9 (fun v1001 h1001 => ?_)
      show Pt _ _ _ _ [some (.ref 72), some (.int x1), some (.int x2), some (.int x3), some (.int x4), some (.long x5), none, some (.int x7), some (.int x8), some (.int v1001)] [] _ _
      refine pt_d (pt_1 (fun n d => r_goto gx275_130) ?_)
      exact ih275_82 h0 h x1 x2 x3 x4 x5 x7 x8 v1001 S G I
theorem wk_275 {n : Nat} {X : aX} {h : aH} {x1 : Int32} {x2 : Int32} {x3 : Int32} {x4 : Int32} {a1 : Int} {a2 : Int} {a3 : Int} {a4 : Int} (S : wS h) (z1 : x1.toInt = a1) (z2 : x2.toInt = a2) (z3 : x3.toInt = a3) (z4 : x4.toInt = a4) (I : IV h) : Pt n X zM275 0 [some (.ref 72), some (.int x1), some (.int x2), some (.int x3), some (.int x4), none, none, none, none, none] [] h (qJ (fun _ h' => wS h' ∧ hk h h' ∧ IV h')) := (wl_275 n).1 h h x1 x2 x3 x4 S (hk_r h) I
theorem wl_276 {X : aX} : ∀ n : Nat, (∀ (h0 h : aH) (x0 : Int64), wS h → hk h0 h → IV h → Pt n X zM276 0 [some (.long x0), none] [] h (qI (fun _ h' => wS h' ∧ hk h0 h' ∧ IV h'))) := by
  intro n
  induction n with
  | zero => refine ?_ <;> (intros; exact pt_z)
  | succ n ih =>
    have ih276_0 := ih
    refine ?_
    · intro h0 h x0 S G I
      obtain ⟨a0, z0⟩ : ∃ a : Int, x0.toInt = a := ⟨_, rfl⟩
      refine pt_1 (fun n d => r_lloadn gx276_0 rfl) ?_
      refine pt_d (pt_lconst (c := 0) gx276_1 rfl (fun v1001 h1001 => ?_))
      refine pt_d (pt_lcmp_ge gx276_2 gx276_3 z0 h1001 (fun e1002 => ?_) (fun e1002 => ?_))
      · skip
        refine pt_d (pt_1 (fun n d => r_lloadn gx276_10 rfl) ?_)
        refine pt_d (pt_ldc2_w (c := 2000000000) gx276_11 rfl (fun v1003 h1003 => ?_))
        refine pt_d (pt_lcmp_le gx276_14 gx276_15 z0 h1003 (fun e1004 => ?_) (fun e1004 => ?_))
        · skip
          refine pt_d (pt_1 (fun n d => r_lloadn gx276_24 rfl) ?_)
          refine pt_d (pt_l2i gx276_25 z0 (fun v1005 h1005 => ?_))
          exact pt_d (pt_iret gx276_26 ⟨_, rfl, S, G, I⟩)
        · skip
          refine pt_d (pt_ldc_w (c := 2000000000) gx276_18 rfl (fun v1006 h1006 => ?_))
          refine pt_d (pt_1 (fun n d => r_goto gx276_21) ?_)
          exact pt_d (pt_iret gx276_26 ⟨_, rfl, S, G, I⟩)
      · skip
        refine pt_d (pt_iconst gx276_6 (fun v1007 h1007 => ?_))
        refine pt_d (pt_1 (fun n d => r_goto gx276_7) ?_)
        exact pt_d (pt_iret gx276_26 ⟨_, rfl, S, G, I⟩)
theorem wk_276 {n : Nat} {X : aX} {h : aH} {x0 : Int64} {a0 : Int} (S : wS h) (z0 : x0.toInt = a0) (I : IV h) : Pt n X zM276 0 [some (.long x0), none] [] h (qI (fun _ h' => wS h' ∧ hk h h' ∧ IV h')) := (wl_276 n) h h x0 S (hk_r h) I
theorem wl_277 {X : aX} : ∀ n : Nat, (∀ (h0 h : aH) (x1 : Int32) (x2 : Int32) (x3 : Int32) (x4 : Int32), wS h → hk h0 h → IV h → Pt n X zM277 0 [some (.ref 72), some (.int x1), some (.int x2), some (.int x3), some (.int x4), none, none, none, none, none, none, none, none] [] h (qI (fun _ h' => wS h' ∧ hk h0 h' ∧ IV h'))) ∧
    (∀ (h0 h : aH) (x1 : Int32) (x2 : Int32) (x3 : Int32) (x4 : Int32) (x5 : Int32) (x6 : Int32) (xs0 : Int32), wS h → hk h0 h → IV h → Pt n X zM277 57 [some (.ref 72), some (.int x1), some (.int x2), some (.int x3), some (.int x4), some (.int x5), some (.int x6), none, none, none, none, none, none] [.int xs0] h (qI (fun _ h' => wS h' ∧ hk h0 h' ∧ IV h'))) ∧
    (∀ (h0 h : aH) (x1 : Int32) (x2 : Int32) (x3 : Int32) (x4 : Int32) (x5 : Int32) (x6 : Int32) (x7 : Int32) (xs0 : Int64), wS h → hk h0 h → IV h → Pt n X zM277 75 [some (.ref 72), some (.int x1), some (.int x2), some (.int x3), some (.int x4), some (.int x5), some (.int x6), some (.int x7), none, none, none, none, none] [.long xs0] h (qI (fun _ h' => wS h' ∧ hk h0 h' ∧ IV h'))) ∧
    (∀ (h0 h : aH) (x1 : Int32) (x2 : Int32) (x3 : Int32) (x4 : Int32) (x5 : Int32) (x6 : Int32) (x7 : Int32) (x8 : Int64) (x10 : Int32), wS h → hk h0 h → IV h → Pt n X zM277 132 [some (.ref 72), some (.int x1), some (.int x2), some (.int x3), some (.int x4), some (.int x5), some (.int x6), some (.int x7), some (.long x8), none, some (.int x10), none, none] [] h (qI (fun _ h' => wS h' ∧ hk h0 h' ∧ IV h'))) ∧
    (∀ (h0 h : aH) (x1 : Int32) (x2 : Int32) (x3 : Int32) (x4 : Int32) (x5 : Int32) (x6 : Int32) (x7 : Int32) (x8 : Int64) (x10 : Int32), wS h → hk h0 h → IV h → Pt n X zM277 152 [some (.ref 72), some (.int x1), some (.int x2), some (.int x3), some (.int x4), some (.int x5), some (.int x6), some (.int x7), some (.long x8), none, some (.int x10), none, none] [] h (qI (fun _ h' => wS h' ∧ hk h0 h' ∧ IV h'))) ∧
    (∀ (h0 h : aH) (x1 : Int32) (x2 : Int32) (x3 : Int32) (x4 : Int32) (x5 : Int32) (x6 : Int32) (x7 : Int32) (x8 : Int64) (x10 : Int32) (x11 : Int32) (xs0 : Int32), wS h → hk h0 h → IV h → Pt n X zM277 210 [some (.ref 72), some (.int x1), some (.int x2), some (.int x3), some (.int x4), some (.int x5), some (.int x6), some (.int x7), some (.long x8), none, some (.int x10), some (.int x11), none] [.int xs0] h (qI (fun _ h' => wS h' ∧ hk h0 h' ∧ IV h'))) ∧
    (∀ (h0 h : aH) (x1 : Int32) (x2 : Int32) (x3 : Int32) (x4 : Int32) (x5 : Int32) (x6 : Int32) (x7 : Int32) (x8 : Int64) (x10 : Int32) (u11 : Option Value), wS h → hk h0 h → IV h → Pt n X zM277 212 [some (.ref 72), some (.int x1), some (.int x2), some (.int x3), some (.int x4), some (.int x5), some (.int x6), some (.int x7), some (.long x8), none, some (.int x10), u11, none] [] h (qI (fun _ h' => wS h' ∧ hk h0 h' ∧ IV h'))) ∧
    (∀ (h0 h : aH) (x1 : Int32) (x2 : Int32) (x3 : Int32) (x4 : Int32) (x5 : Int32) (x6 : Int32) (x7 : Int32) (x8 : Int64) (x10 : Int32) (x11 : Int32) (x12 : Int32) (xs0 : Int32), wS h → hk h0 h → IV h → Pt n X zM277 285 [some (.ref 72), some (.int x1), some (.int x2), some (.int x3), some (.int x4), some (.int x5), some (.int x6), some (.int x7), some (.long x8), none, some (.int x10), some (.int x11), some (.int x12)] [.int xs0] h (qI (fun _ h' => wS h' ∧ hk h0 h' ∧ IV h'))) ∧
    (∀ (h0 h : aH) (x1 : Int32) (x2 : Int32) (x3 : Int32) (x4 : Int32) (x5 : Int32) (x6 : Int32) (x7 : Int32) (x8 : Int64) (x10 : Int32) (x11 : Int32) (u12 : Option Value), wS h → hk h0 h → IV h → Pt n X zM277 287 [some (.ref 72), some (.int x1), some (.int x2), some (.int x3), some (.int x4), some (.int x5), some (.int x6), some (.int x7), some (.long x8), none, some (.int x10), some (.int x11), u12] [] h (qI (fun _ h' => wS h' ∧ hk h0 h' ∧ IV h'))) ∧
    (∀ (h0 h : aH) (x1 : Int32) (x2 : Int32) (x3 : Int32) (x4 : Int32) (x5 : Int32) (x6 : Int32) (x7 : Int32) (x8 : Int64) (x10 : Int32) (x11 : Int32) (u12 : Option Value), wS h → hk h0 h → IV h → Pt n X zM277 318 [some (.ref 72), some (.int x1), some (.int x2), some (.int x3), some (.int x4), some (.int x5), some (.int x6), some (.int x7), some (.long x8), none, some (.int x10), some (.int x11), u12] [] h (qI (fun _ h' => wS h' ∧ hk h0 h' ∧ IV h'))) := by
  intro n
  induction n with
  | zero => refine ⟨?_, ?_, ?_, ?_, ?_, ?_, ?_, ?_, ?_, ?_⟩ <;> (intros; exact pt_z)
  | succ n ih =>
    obtain ⟨ih277_0, ih277_57, ih277_75, ih277_132, ih277_152, ih277_210, ih277_212, ih277_285, ih277_287, ih277_318⟩ := ih
    refine ⟨?_, ?_, ?_, ?_, ?_, ?_, ?_, ?_, ?_, ?_⟩
    · intro h0 h x1 x2 x3 x4 S G I
      obtain ⟨a1, z1⟩ : ∃ a : Int, x1.toInt = a := ⟨_, rfl⟩
      obtain ⟨a2, z2⟩ : ∃ a : Int, x2.toInt = a := ⟨_, rfl⟩
      obtain ⟨a3, z3⟩ : ∃ a : Int, x3.toInt = a := ⟨_, rfl⟩
      obtain ⟨a4, z4⟩ : ∃ a : Int, x4.toInt = a := ⟨_, rfl⟩
      refine pt_1 (fun n d => r_aloadn gx277_0 rfl) ?_
      refine pt_d (pt_1 (fun n d => r_iloadn gx277_1 rfl) ?_)
      refine pt_d (pt_1 (fun n d => r_iloadn gx277_2 rfl) ?_)
      refine pt_d (pt_1 (fun n d => r_iloadn gx277_3 rfl) ?_)
      refine pt_d (pt_virt (as := [.int x1, .int x2, .int x3]) (r := []) gx277_4 rfl (show zmt[272]? = some zM272 from rfl) rfl rfl rfl rfl (wk_272 S z1 z2 z3 I) (kqN (fun h_1001 P1001 => ?_)))
      have S1001 := P1001.1
      have G1001 := hk_t G P1001.2.1
      have I1001 := P1001.2.2
      show Pt _ _ _ 7 _ [] _ _
      refine pt_d (pt_bipush gx277_7 (fun v1002 h1002 => ?_))
      refine pt_d (pt_1 (fun n d => r_aloadn gx277_9 rfl) ?_)
      refine pt_d (pt_getR gx277_10 S1001 tr_72_4 ?_)
      refine pt_d (pt_1 (fun n d => r_iloadn gx277_13 rfl) ?_)
      refine pt_d (pt_iald (N' := 150) gx277_14 S1001 tl_74 z1 (fun v1004 p1004 q1004 h1004 => ?_))
      refine pt_d (pt_imul gx277_15 h1002 h1004 (fun v1005 h1005 => ?_))
      refine pt_d (pt_1 (fun n d => r_istore (L' := [some (.ref 72), some (.int x1), some (.int x2), some (.int x3), some (.int x4), some (.int v1005), none, none, none, none, none, none, none]) gx277_16 rfl rfl) ?_)
      refine pt_d (pt_1 (fun n d => r_aloadn gx277_18 rfl) ?_)
      refine pt_d (pt_getR gx277_19 S1001 tr_72_69 ?_)
      refine pt_d (pt_iconst gx277_22 (fun v1007 h1007 => ?_))
      refine pt_d (pt_iald (N' := 13) gx277_23 S1001 tl_124 h1007 (fun v1008 p1008 q1008 h1008 => ?_))
      refine pt_d (pt_bipush gx277_24 (fun v1009 h1009 => ?_))
      refine pt_d (pt_1 (fun n d => r_aloadn gx277_26 rfl) ?_)
      refine pt_d (pt_getR gx277_27 S1001 tr_72_69 ?_)
      refine pt_d (pt_bipush gx277_30 (fun v1011 h1011 => ?_))
      refine pt_d (pt_iald (N' := 13) gx277_32 S1001 tl_124 h1011 (fun v1012 p1012 q1012 h1012 => ?_))
      refine pt_d (pt_imul gx277_33 h1009 h1012 (fun v1013 h1013 => ?_))
      refine pt_d (pt_stat (as := [.int v1008, .int v1013]) (r := []) gx277_34 rfl (show zmt[211]? = some zM211 from rfl) rfl rfl rfl rfl (c_211 S1001 h1008 h1013) (kqP (fun v1014 h1014 => ?_)))
      show Pt _ _ _ 37 _ [.int v1014] _ _
      refine pt_d (pt_1 (fun n d => r_istore (L' := [some (.ref 72), some (.int x1), some (.int x2), some (.int x3), some (.int x4), some (.int v1005), some (.int v1014), none, none, none, none, none, none]) gx277_37 rfl rfl) ?_)
      refine pt_d (pt_1 (fun n d => r_iload gx277_39 rfl) ?_)
      refine pt_d (pt_if_lt gx277_41 z4 (fun e1015 => ?_) (fun e1015 => ?_))
      · skip
        refine pt_d (pt_1 (fun n d => r_aloadn gx277_49 rfl) ?_)
        refine pt_d (pt_1 (fun n d => r_iload gx277_50 rfl) ?_)
        refine pt_d (pt_1 (fun n d => r_iloadn gx277_52 rfl) ?_)
        refine pt_d (pt_1 (fun n d => r_iloadn gx277_53 rfl) ?_)
        refine pt_d (pt_virt (as := [.int v1005, .int x2, .int x3]) (r := []) gx277_54 rfl (show zmt[265]? = some zM265 from rfl) rfl rfl rfl rfl (wk_265 S1001 h1005 z2 z3 I1001) (kqI (fun v1016 y1016 h_1016 h1016 P1016 => ?_)))
        have S1016 := P1016.1
        have G1016 := hk_t G1001 P1016.2.1
        have I1016 := P1016.2.2
        show Pt _ _ _ 57 _ [.int v1016] _ _
        exact ih277_57 h0 h_1016 x1 x2 x3 x4 v1005 v1014 v1016 S1016 G1016 I1016
      · skip
        refine pt_d (pt_1 (fun n d => r_iload gx277_44 rfl) ?_)
        refine pt_d (pt_1 (fun n d => r_goto gx277_46) ?_)
        exact ih277_57 h0 h_1001 x1 x2 x3 x4 v1005 v1014 x4 S1001 G1001 I1001
    · intro h0 h x1 x2 x3 x4 x5 x6 xs0 S G I
      obtain ⟨a1, z1⟩ : ∃ a : Int, x1.toInt = a := ⟨_, rfl⟩
      obtain ⟨a2, z2⟩ : ∃ a : Int, x2.toInt = a := ⟨_, rfl⟩
      obtain ⟨a3, z3⟩ : ∃ a : Int, x3.toInt = a := ⟨_, rfl⟩
      obtain ⟨a4, z4⟩ : ∃ a : Int, x4.toInt = a := ⟨_, rfl⟩
      obtain ⟨a5, z5⟩ : ∃ a : Int, x5.toInt = a := ⟨_, rfl⟩
      obtain ⟨a6, z6⟩ : ∃ a : Int, x6.toInt = a := ⟨_, rfl⟩
      obtain ⟨as0, zs0⟩ : ∃ a : Int, xs0.toInt = a := ⟨_, rfl⟩
      refine pt_1 (fun n d => r_istore (L' := [some (.ref 72), some (.int x1), some (.int x2), some (.int x3), some (.int x4), some (.int x5), some (.int x6), some (.int xs0), none, none, none, none, none]) gx277_57 rfl rfl) ?_
      refine pt_d (pt_1 (fun n d => r_iload gx277_59 rfl) ?_)
      refine pt_d (pt_if_ge gx277_61 zs0 (fun e1001 => ?_) (fun e1001 => ?_))
      · skip
        refine pt_d (pt_1 (fun n d => r_aloadn gx277_68 rfl) ?_)
        refine pt_d (pt_1 (fun n d => r_iload gx277_69 rfl) ?_)
        refine pt_d (pt_virt (as := [.int xs0]) (r := []) gx277_71 rfl (show zmt[269]? = some zM269 from rfl) rfl rfl rfl rfl (wk_269 S zs0 I) (kqI (fun v1002 y1002 h_1002 h1002 P1002 => ?_)))
        have S1002 := P1002.1
        have G1002 := hk_t G P1002.2.1
        have I1002 := P1002.2.2
        show Pt _ _ _ 74 _ [.int v1002] _ _
        refine pt_d (pt_i2l gx277_74 h1002 (fun v1003 h1003 => ?_))
        exact ih277_75 h0 h_1002 x1 x2 x3 x4 x5 x6 xs0 v1003 S1002 G1002 I1002
      · skip
        refine pt_d (pt_lconst (c := 1) gx277_64 rfl (fun v1004 h1004 => ?_))
        refine pt_d (pt_1 (fun n d => r_goto gx277_65) ?_)
        exact ih277_75 h0 h x1 x2 x3 x4 x5 x6 xs0 v1004 S G I
    · intro h0 h x1 x2 x3 x4 x5 x6 x7 xs0 S G I
      obtain ⟨a1, z1⟩ : ∃ a : Int, x1.toInt = a := ⟨_, rfl⟩
      obtain ⟨a2, z2⟩ : ∃ a : Int, x2.toInt = a := ⟨_, rfl⟩
      obtain ⟨a3, z3⟩ : ∃ a : Int, x3.toInt = a := ⟨_, rfl⟩
      obtain ⟨a4, z4⟩ : ∃ a : Int, x4.toInt = a := ⟨_, rfl⟩
      obtain ⟨a5, z5⟩ : ∃ a : Int, x5.toInt = a := ⟨_, rfl⟩
      obtain ⟨a6, z6⟩ : ∃ a : Int, x6.toInt = a := ⟨_, rfl⟩
      obtain ⟨a7, z7⟩ : ∃ a : Int, x7.toInt = a := ⟨_, rfl⟩
      obtain ⟨as0, zs0⟩ : ∃ a : Int, xs0.toInt = a := ⟨_, rfl⟩
      refine pt_1 (fun n d => r_lstore (L' := [some (.ref 72), some (.int x1), some (.int x2), some (.int x3), some (.int x4), some (.int x5), some (.int x6), some (.int x7), some (.long xs0), none, none, none, none]) gx277_75 rfl rfl) ?_
      refine pt_d (pt_1 (fun n d => r_lload gx277_77 rfl) ?_)
      refine pt_d (pt_1 (fun n d => r_iload gx277_79 rfl) ?_)
      refine pt_d (pt_i2l gx277_81 z6 (fun v1001 h1001 => ?_))
      refine pt_d (pt_lmul gx277_82 zs0 h1001 (fun v1002 h1002 => ?_))
      refine pt_d (pt_1 (fun n d => r_aloadn gx277_83 rfl) ?_)
      refine pt_d (pt_1 (fun n d => r_iloadn gx277_84 rfl) ?_)
      refine pt_d (pt_1 (fun n d => r_iloadn gx277_85 rfl) ?_)
      refine pt_d (pt_1 (fun n d => r_iloadn gx277_86 rfl) ?_)
      refine pt_d (pt_1 (fun n d => r_iload gx277_87 rfl) ?_)
      refine pt_d (pt_virt (as := [.int x1, .int x2, .int x3, .int x6]) (r := [.long v1002]) gx277_89 rfl (show zmt[275]? = some zM275 from rfl) rfl rfl rfl rfl (wk_275 S z1 z2 z3 z6 I) (kqJ (fun v1003 y1003 h_1003 h1003 P1003 => ?_)))
      have S1003 := P1003.1
      have G1003 := hk_t G P1003.2.1
      have I1003 := P1003.2.2
      show Pt _ _ _ 92 _ [.long v1003, .long v1002] _ _
      refine pt_d (pt_ladd gx277_92 h1002 h1003 (fun v1004 h1004 => ?_))
      refine pt_d (pt_stat (as := [.long v1004]) (r := []) gx277_93 rfl (show zmt[276]? = some zM276 from rfl) rfl rfl rfl rfl (wk_276 S1003 h1004 I1003) (kqI (fun v1005 y1005 h_1005 h1005 P1005 => ?_)))
      have S1005 := P1005.1
      have G1005 := hk_t G1003 P1005.2.1
      have I1005 := P1005.2.2
      show Pt _ _ _ 96 _ [.int v1005] _ _
      refine pt_d (pt_1 (fun n d => r_istore (L' := [some (.ref 72), some (.int x1), some (.int x2), some (.int x3), some (.int x4), some (.int x5), some (.int x6), some (.int x7), some (.long xs0), none, some (.int v1005), none, none]) gx277_96 rfl rfl) ?_)
      refine pt_d (pt_1 (fun n d => r_aloadn gx277_98 rfl) ?_)
      refine pt_d (pt_getR gx277_99 S1005 tr_72_74 ?_)
      refine pt_d (pt_iconst gx277_102 (fun v1007 h1007 => ?_))
      refine pt_d (pt_1 (fun n d => r_iload gx277_103 rfl) ?_)
      refine pt_d (pt_iasth (N' := 6) gx277_105 S1005 tl_128 h1007 h1005 (fun h_1008 S1008 p1008 q1008 e1008 K1008 => ?_))
      have G1008 := hk_t G1005 K1008
      have I1008 := IV_ua I1005 K1008 e1008 (by decide)
      refine pt_d (pt_1 (fun n d => r_aloadn gx277_106 rfl) ?_)
      refine pt_d (pt_1 (fun n d => r_iload gx277_107 rfl) ?_)
      refine pt_d (pt_iconst gx277_109 (fun v1009 h1009 => ?_))
      refine pt_d (pt_iadd gx277_110 z5 h1009 (fun v1010 h1010 => ?_))
      refine pt_d (pt_1 (fun n d => r_iloadn gx277_111 rfl) ?_)
      refine pt_d (pt_1 (fun n d => r_iloadn gx277_112 rfl) ?_)
      refine pt_d (pt_virt (as := [.int v1010, .int x2, .int x3]) (r := []) gx277_113 rfl (show zmt[265]? = some zM265 from rfl) rfl rfl rfl rfl (wk_265 S1008 h1010 z2 z3 I1008) (kqI (fun v1011 y1011 h_1011 h1011 P1011 => ?_)))
      have S1011 := P1011.1
      have G1011 := hk_t G1008 P1011.2.1
      have I1011 := P1011.2.2
      show Pt _ _ _ 116 _ [.int v1011] _ _
      refine pt_d (pt_1 (fun n d => r_istore (L' := [some (.ref 72), some (.int x1), some (.int x2), some (.int x3), some (.int x4), some (.int x5), some (.int x6), some (.int v1011), some (.long xs0), none, some (.int v1005), none, none]) gx277_116 rfl rfl) ?_)
      refine pt_d (pt_1 (fun n d => r_iload gx277_118 rfl) ?_)
      refine pt_d (pt_if_lt gx277_120 h1011 (fun e1012 => ?_) (fun e1012 => ?_))
      · skip
        exact ih277_132 h0 h_1011 x1 x2 x3 x4 x5 x6 v1011 xs0 v1005 S1011 G1011 I1011
      · skip
        refine pt_d (pt_1 (fun n d => r_aloadn gx277_123 rfl) ?_)
        refine pt_d (pt_1 (fun n d => r_iload gx277_124 rfl) ?_)
        refine pt_d (pt_virt (as := [.int v1011]) (r := []) gx277_126 rfl (show zmt[269]? = some zM269 from rfl) rfl rfl rfl rfl (wk_269 S1011 h1011 I1011) (kqI (fun v1013 y1013 h_1013 h1013 P1013 => ?_)))
        have S1013 := P1013.1
        have G1013 := hk_t G1011 P1013.2.1
        have I1013 := P1013.2.2
        show Pt _ _ _ 129 _ [.int v1013] _ _
        refine pt_d (pt_if_eq gx277_129 h1013 (fun e1014 => ?_) (fun e1014 => ?_))
        · skip
          exact ih277_152 h0 h_1013 x1 x2 x3 x4 x5 x6 v1011 xs0 v1005 S1013 G1013 I1013
        · skip
          exact ih277_132 h0 h_1013 x1 x2 x3 x4 x5 x6 v1011 xs0 v1005 S1013 G1013 I1013
    · intro h0 h x1 x2 x3 x4 x5 x6 x7 x8 x10 S G I
      obtain ⟨a1, z1⟩ : ∃ a : Int, x1.toInt = a := ⟨_, rfl⟩
      obtain ⟨a2, z2⟩ : ∃ a : Int, x2.toInt = a := ⟨_, rfl⟩
      obtain ⟨a3, z3⟩ : ∃ a : Int, x3.toInt = a := ⟨_, rfl⟩
      obtain ⟨a4, z4⟩ : ∃ a : Int, x4.toInt = a := ⟨_, rfl⟩
      obtain ⟨a5, z5⟩ : ∃ a : Int, x5.toInt = a := ⟨_, rfl⟩
      obtain ⟨a6, z6⟩ : ∃ a : Int, x6.toInt = a := ⟨_, rfl⟩
      obtain ⟨a7, z7⟩ : ∃ a : Int, x7.toInt = a := ⟨_, rfl⟩
      obtain ⟨a8, z8⟩ : ∃ a : Int, x8.toInt = a := ⟨_, rfl⟩
      obtain ⟨a10, z10⟩ : ∃ a : Int, x10.toInt = a := ⟨_, rfl⟩
      refine pt_1 (fun n d => r_iload gx277_132 rfl) ?_
      refine pt_d (pt_i2l gx277_134 z10 (fun v1001 h1001 => ?_))
      refine pt_d (pt_ldc2_w (c := 3) gx277_135 rfl (fun v1002 h1002 => ?_))
      refine pt_d (pt_1 (fun n d => r_iload gx277_138 rfl) ?_)
      refine pt_d (pt_i2l gx277_140 z10 (fun v1003 h1003 => ?_))
      refine pt_d (pt_lmul gx277_141 h1002 h1003 (fun v1004 h1004 => ?_))
      refine pt_d (pt_ldc2_w (c := 10) gx277_142 rfl (fun v1005 h1005 => ?_))
      refine pt_d (pt_ldiv gx277_145 h1004 h1005 (fun v1006 h1006 => ?_))
      refine pt_d (pt_ladd gx277_146 h1001 h1006 (fun v1007 h1007 => ?_))
      refine pt_d (pt_stat (as := [.long v1007]) (r := []) gx277_147 rfl (show zmt[276]? = some zM276 from rfl) rfl rfl rfl rfl (wk_276 S h1007 I) (kqI (fun v1008 y1008 h_1008 h1008 P1008 => ?_)))
      have S1008 := P1008.1
      have G1008 := hk_t G P1008.2.1
      have I1008 := P1008.2.2
      show Pt _ _ _ 150 _ [.int v1008] _ _
      refine pt_d (pt_1 (fun n d => r_istore (L' := [some (.ref 72), some (.int x1), some (.int x2), some (.int x3), some (.int x4), some (.int x5), some (.int x6), some (.int x7), some (.long x8), none, some (.int v1008), none, none]) gx277_150 rfl rfl) ?_)
      exact ih277_152 h0 h_1008 x1 x2 x3 x4 x5 x6 x7 x8 v1008 S1008 G1008 I1008
    · intro h0 h x1 x2 x3 x4 x5 x6 x7 x8 x10 S G I
      obtain ⟨a1, z1⟩ : ∃ a : Int, x1.toInt = a := ⟨_, rfl⟩
      obtain ⟨a2, z2⟩ : ∃ a : Int, x2.toInt = a := ⟨_, rfl⟩
      obtain ⟨a3, z3⟩ : ∃ a : Int, x3.toInt = a := ⟨_, rfl⟩
      obtain ⟨a4, z4⟩ : ∃ a : Int, x4.toInt = a := ⟨_, rfl⟩
      obtain ⟨a5, z5⟩ : ∃ a : Int, x5.toInt = a := ⟨_, rfl⟩
      obtain ⟨a6, z6⟩ : ∃ a : Int, x6.toInt = a := ⟨_, rfl⟩
      obtain ⟨a7, z7⟩ : ∃ a : Int, x7.toInt = a := ⟨_, rfl⟩
      obtain ⟨a8, z8⟩ : ∃ a : Int, x8.toInt = a := ⟨_, rfl⟩
      obtain ⟨a10, z10⟩ : ∃ a : Int, x10.toInt = a := ⟨_, rfl⟩
      refine pt_1 (fun n d => r_aloadn gx277_152 rfl) ?_
      refine pt_d (pt_getR gx277_153 S tr_72_74 ?_)
      refine pt_d (pt_iconst gx277_156 (fun v1002 h1002 => ?_))
      refine pt_d (pt_1 (fun n d => r_iload gx277_157 rfl) ?_)
      refine pt_d (pt_iasth (N' := 6) gx277_159 S tl_128 h1002 z10 (fun h_1003 S1003 p1003 q1003 e1003 K1003 => ?_))
      have G1003 := hk_t G K1003
      have I1003 := IV_ua I K1003 e1003 (by decide)
      refine pt_d (pt_1 (fun n d => r_aloadn gx277_160 rfl) ?_)
      refine pt_d (pt_1 (fun n d => r_iload gx277_161 rfl) ?_)
      refine pt_d (pt_iconst gx277_163 (fun v1004 h1004 => ?_))
      refine pt_d (pt_iadd gx277_164 z5 h1004 (fun v1005 h1005 => ?_))
      refine pt_d (pt_1 (fun n d => r_iloadn gx277_165 rfl) ?_)
      refine pt_d (pt_1 (fun n d => r_iloadn gx277_166 rfl) ?_)
      refine pt_d (pt_virt (as := [.int v1005, .int x2, .int x3]) (r := []) gx277_167 rfl (show zmt[265]? = some zM265 from rfl) rfl rfl rfl rfl (wk_265 S1003 h1005 z2 z3 I1003) (kqI (fun v1006 y1006 h_1006 h1006 P1006 => ?_)))
      have S1006 := P1006.1
      have G1006 := hk_t G1003 P1006.2.1
      have I1006 := P1006.2.2
      show Pt _ _ _ 170 _ [.int v1006] _ _
      refine pt_d (pt_1 (fun n d => r_istore (L' := [some (.ref 72), some (.int x1), some (.int x2), some (.int x3), some (.int x4), some (.int x5), some (.int x6), some (.int v1006), some (.long x8), none, some (.int x10), none, none]) gx277_170 rfl rfl) ?_)
      refine pt_d (pt_1 (fun n d => r_aloadn gx277_172 rfl) ?_)
      refine pt_d (pt_getR gx277_173 S1006 tr_72_69 ?_)
      refine pt_d (pt_bipush gx277_176 (fun v1008 h1008 => ?_))
      refine pt_d (pt_1 (fun n d => r_iload gx277_178 rfl) ?_)
      refine pt_d (pt_iasth (N' := 13) gx277_180 S1006 tl_124 h1008 z10 (fun h_1009 S1009 p1009 q1009 e1009 K1009 => ?_))
      have G1009 := hk_t G1006 K1009
      have I1009 := IV_ua I1006 K1009 e1009 (by decide)
      refine pt_d (pt_1 (fun n d => r_iload gx277_181 rfl) ?_)
      refine pt_d (pt_if_lt gx277_183 h1006 (fun e1010 => ?_) (fun e1010 => ?_))
      · skip
        exact ih277_212 h0 h_1009 x1 x2 x3 x4 x5 x6 v1006 x8 x10 _ S1009 G1009 I1009
      · skip
        refine pt_d (pt_1 (fun n d => r_aloadn gx277_186 rfl) ?_)
        refine pt_d (pt_1 (fun n d => r_iload gx277_187 rfl) ?_)
        refine pt_d (pt_virt (as := [.int v1006]) (r := []) gx277_189 rfl (show zmt[269]? = some zM269 from rfl) rfl rfl rfl rfl (wk_269 S1009 h1006 I1009) (kqI (fun v1011 y1011 h_1011 h1011 P1011 => ?_)))
        have S1011 := P1011.1
        have G1011 := hk_t G1009 P1011.2.1
        have I1011 := P1011.2.2
        show Pt _ _ _ 192 _ [.int v1011] _ _
        refine pt_d (pt_1 (fun n d => r_istore (L' := [some (.ref 72), some (.int x1), some (.int x2), some (.int x3), some (.int x4), some (.int x5), some (.int x6), some (.int v1006), some (.long x8), none, some (.int x10), some (.int v1011), none]) gx277_192 rfl rfl) ?_)
        refine pt_d (pt_1 (fun n d => r_iload gx277_194 rfl) ?_)
        refine pt_d (pt_if_ge gx277_196 h1011 (fun e1012 => ?_) (fun e1012 => ?_))
        · skip
          refine pt_d (pt_1 (fun n d => r_iload gx277_203 rfl) ?_)
          refine pt_d (pt_1 (fun n d => r_iload gx277_205 rfl) ?_)
          refine pt_d (pt_stat (as := [.int v1011, .int x10]) (r := []) gx277_207 rfl (show zmt[211]? = some zM211 from rfl) rfl rfl rfl rfl (c_211 S1011 h1011 z10) (kqP (fun v1013 h1013 => ?_)))
          show Pt _ _ _ 210 _ [.int v1013] _ _
          exact ih277_210 h0 h_1011 x1 x2 x3 x4 x5 x6 v1006 x8 x10 v1011 v1013 S1011 G1011 I1011
        · skip
          refine pt_d (pt_iconst gx277_199 (fun v1014 h1014 => ?_))
          refine pt_d (pt_1 (fun n d => r_goto gx277_200) ?_)
          exact ih277_210 h0 h_1011 x1 x2 x3 x4 x5 x6 v1006 x8 x10 v1011 v1014 S1011 G1011 I1011
    · intro h0 h x1 x2 x3 x4 x5 x6 x7 x8 x10 x11 xs0 S G I
      obtain ⟨a1, z1⟩ : ∃ a : Int, x1.toInt = a := ⟨_, rfl⟩
      obtain ⟨a2, z2⟩ : ∃ a : Int, x2.toInt = a := ⟨_, rfl⟩
      obtain ⟨a3, z3⟩ : ∃ a : Int, x3.toInt = a := ⟨_, rfl⟩
      obtain ⟨a4, z4⟩ : ∃ a : Int, x4.toInt = a := ⟨_, rfl⟩
      obtain ⟨a5, z5⟩ : ∃ a : Int, x5.toInt = a := ⟨_, rfl⟩
      obtain ⟨a6, z6⟩ : ∃ a : Int, x6.toInt = a := ⟨_, rfl⟩
      obtain ⟨a7, z7⟩ : ∃ a : Int, x7.toInt = a := ⟨_, rfl⟩
      obtain ⟨a8, z8⟩ : ∃ a : Int, x8.toInt = a := ⟨_, rfl⟩
      obtain ⟨a10, z10⟩ : ∃ a : Int, x10.toInt = a := ⟨_, rfl⟩
      obtain ⟨a11, z11⟩ : ∃ a : Int, x11.toInt = a := ⟨_, rfl⟩
      obtain ⟨as0, zs0⟩ : ∃ a : Int, xs0.toInt = a := ⟨_, rfl⟩
      refine pt_1 (fun n d => r_istore (L' := [some (.ref 72), some (.int x1), some (.int x2), some (.int x3), some (.int x4), some (.int x5), some (.int x6), some (.int x7), some (.long x8), none, some (.int xs0), some (.int x11), none]) gx277_210 rfl rfl) ?_
      exact ih277_212 h0 h x1 x2 x3 x4 x5 x6 x7 x8 xs0 _ S G I
    · intro h0 h x1 x2 x3 x4 x5 x6 x7 x8 x10 u11 S G I
      obtain ⟨a1, z1⟩ : ∃ a : Int, x1.toInt = a := ⟨_, rfl⟩
      obtain ⟨a2, z2⟩ : ∃ a : Int, x2.toInt = a := ⟨_, rfl⟩
      obtain ⟨a3, z3⟩ : ∃ a : Int, x3.toInt = a := ⟨_, rfl⟩
      obtain ⟨a4, z4⟩ : ∃ a : Int, x4.toInt = a := ⟨_, rfl⟩
      obtain ⟨a5, z5⟩ : ∃ a : Int, x5.toInt = a := ⟨_, rfl⟩
      obtain ⟨a6, z6⟩ : ∃ a : Int, x6.toInt = a := ⟨_, rfl⟩
      obtain ⟨a7, z7⟩ : ∃ a : Int, x7.toInt = a := ⟨_, rfl⟩
      obtain ⟨a8, z8⟩ : ∃ a : Int, x8.toInt = a := ⟨_, rfl⟩
      obtain ⟨a10, z10⟩ : ∃ a : Int, x10.toInt = a := ⟨_, rfl⟩
      refine pt_1 (fun n d => r_aloadn gx277_212 rfl) ?_
      refine pt_d (pt_getR gx277_213 S tr_72_69 ?_)
      refine pt_d (pt_bipush gx277_216 (fun v1002 h1002 => ?_))
      refine pt_d (pt_iconst gx277_218 (fun v1003 h1003 => ?_))
      refine pt_d (pt_iasth (N' := 13) gx277_219 S tl_124 h1002 h1003 (fun h_1004 S1004 p1004 q1004 e1004 K1004 => ?_))
      have G1004 := hk_t G K1004
      have I1004 := IV_ua I K1004 e1004 (by decide)
      refine pt_d (pt_1 (fun n d => r_aloadn gx277_220 rfl) ?_)
      refine pt_d (pt_getR gx277_221 S1004 tr_72_74 ?_)
      refine pt_d (pt_iconst gx277_224 (fun v1006 h1006 => ?_))
      refine pt_d (pt_1 (fun n d => r_iload gx277_225 rfl) ?_)
      refine pt_d (pt_iasth (N' := 6) gx277_227 S1004 tl_128 h1006 z10 (fun h_1007 S1007 p1007 q1007 e1007 K1007 => ?_))
      have G1007 := hk_t G1004 K1007
      have I1007 := IV_ua I1004 K1007 e1007 (by decide)
      refine pt_d (pt_1 (fun n d => r_aloadn gx277_228 rfl) ?_)
      refine pt_d (pt_1 (fun n d => r_iload gx277_229 rfl) ?_)
      refine pt_d (pt_iconst gx277_231 (fun v1008 h1008 => ?_))
      refine pt_d (pt_iadd gx277_232 z5 h1008 (fun v1009 h1009 => ?_))
      refine pt_d (pt_1 (fun n d => r_iloadn gx277_233 rfl) ?_)
      refine pt_d (pt_1 (fun n d => r_iloadn gx277_234 rfl) ?_)
      refine pt_d (pt_virt (as := [.int v1009, .int x2, .int x3]) (r := []) gx277_235 rfl (show zmt[265]? = some zM265 from rfl) rfl rfl rfl rfl (wk_265 S1007 h1009 z2 z3 I1007) (kqI (fun v1010 y1010 h_1010 h1010 P1010 => ?_)))
      have S1010 := P1010.1
      have G1010 := hk_t G1007 P1010.2.1
      have I1010 := P1010.2.2
      show Pt _ _ _ 238 _ [.int v1010] _ _
      refine pt_d (pt_1 (fun n d => r_istore (L' := [some (.ref 72), some (.int x1), some (.int x2), some (.int x3), some (.int x4), some (.int x5), some (.int x6), some (.int v1010), some (.long x8), none, some (.int x10), u11, none]) gx277_238 rfl rfl) ?_)
      refine pt_d (pt_iconst gx277_240 (fun v1011 h1011 => ?_))
      refine pt_d (pt_1 (fun n d => r_istore (L' := [some (.ref 72), some (.int x1), some (.int x2), some (.int x3), some (.int x4), some (.int x5), some (.int x6), some (.int v1010), some (.long x8), none, some (.int x10), some (.int v1011), none]) gx277_241 rfl rfl) ?_)
      refine pt_d (pt_1 (fun n d => r_aloadn gx277_243 rfl) ?_)
      refine pt_d (pt_iconst gx277_244 (fun v1012 h1012 => ?_))
      refine pt_d (pt_putIh (B := 75) gx277_245 S1010 h1012 (fun h_1013 S1013 e1013 K1013 => ?_))
      have G1013 := hk_t G1010 K1013
      have I1013 := IV_uf I1010 K1013 e1013 (by decide)
      refine pt_d (pt_1 (fun n d => r_iload gx277_248 rfl) ?_)
      refine pt_d (pt_if_lt gx277_250 h1010 (fun e1014 => ?_) (fun e1014 => ?_))
      · skip
        exact ih277_287 h0 h_1013 x1 x2 x3 x4 x5 x6 v1010 x8 x10 v1011 _ S1013 G1013 I1013
      · skip
        refine pt_d (pt_1 (fun n d => r_aloadn gx277_253 rfl) ?_)
        refine pt_d (pt_1 (fun n d => r_iload gx277_254 rfl) ?_)
        refine pt_d (pt_virt (as := [.int v1010]) (r := []) gx277_256 rfl (show zmt[269]? = some zM269 from rfl) rfl rfl rfl rfl (wk_269 S1013 h1010 I1013) (kqI (fun v1015 y1015 h_1015 h1015 P1015 => ?_)))
        have S1015 := P1015.1
        have G1015 := hk_t G1013 P1015.2.1
        have I1015 := P1015.2.2
        show Pt _ _ _ 259 _ [.int v1015] _ _
        refine pt_d (pt_1 (fun n d => r_istore (L' := [some (.ref 72), some (.int x1), some (.int x2), some (.int x3), some (.int x4), some (.int x5), some (.int x6), some (.int v1010), some (.long x8), none, some (.int x10), some (.int v1011), some (.int v1015)]) gx277_259 rfl rfl) ?_)
        refine pt_d (pt_1 (fun n d => r_aloadn gx277_261 rfl) ?_)
        refine pt_d (pt_1 (fun n d => r_aloadn gx277_262 rfl) ?_)
        refine pt_d (pt_getI (B := 71) gx277_263 S1015 (fun v1016 h1016 => ?_))
        refine pt_d (pt_putIh (B := 75) gx277_266 S1015 h1016 (fun h_1017 S1017 e1017 K1017 => ?_))
        have G1017 := hk_t G1015 K1017
        have I1017 := IV_uf I1015 K1017 e1017 (by decide)
        refine pt_d (pt_1 (fun n d => r_iload gx277_269 rfl) ?_)
        refine pt_d (pt_if_ge gx277_271 h1015 (fun e1018 => ?_) (fun e1018 => ?_))
        · skip
          refine pt_d (pt_1 (fun n d => r_iload gx277_278 rfl) ?_)
          refine pt_d (pt_bipush gx277_280 (fun v1019 h1019 => ?_))
          refine pt_d (pt_stat (as := [.int v1015, .int v1019]) (r := []) gx277_282 rfl (show zmt[211]? = some zM211 from rfl) rfl rfl rfl rfl (c_211 S1017 h1015 h1019) (kqP (fun v1020 h1020 => ?_)))
          show Pt _ _ _ 285 _ [.int v1020] _ _
          exact ih277_285 h0 h_1017 x1 x2 x3 x4 x5 x6 v1010 x8 x10 v1011 v1015 v1020 S1017 G1017 I1017
        · skip
          refine pt_d (pt_iconst gx277_274 (fun v1021 h1021 => ?_))
          refine pt_d (pt_1 (fun n d => r_goto gx277_275) ?_)
          exact ih277_285 h0 h_1017 x1 x2 x3 x4 x5 x6 v1010 x8 x10 v1011 v1015 v1021 S1017 G1017 I1017
    · intro h0 h x1 x2 x3 x4 x5 x6 x7 x8 x10 x11 x12 xs0 S G I
      obtain ⟨a1, z1⟩ : ∃ a : Int, x1.toInt = a := ⟨_, rfl⟩
      obtain ⟨a2, z2⟩ : ∃ a : Int, x2.toInt = a := ⟨_, rfl⟩
      obtain ⟨a3, z3⟩ : ∃ a : Int, x3.toInt = a := ⟨_, rfl⟩
      obtain ⟨a4, z4⟩ : ∃ a : Int, x4.toInt = a := ⟨_, rfl⟩
      obtain ⟨a5, z5⟩ : ∃ a : Int, x5.toInt = a := ⟨_, rfl⟩
      obtain ⟨a6, z6⟩ : ∃ a : Int, x6.toInt = a := ⟨_, rfl⟩
      obtain ⟨a7, z7⟩ : ∃ a : Int, x7.toInt = a := ⟨_, rfl⟩
      obtain ⟨a8, z8⟩ : ∃ a : Int, x8.toInt = a := ⟨_, rfl⟩
      obtain ⟨a10, z10⟩ : ∃ a : Int, x10.toInt = a := ⟨_, rfl⟩
      obtain ⟨a11, z11⟩ : ∃ a : Int, x11.toInt = a := ⟨_, rfl⟩
      obtain ⟨a12, z12⟩ : ∃ a : Int, x12.toInt = a := ⟨_, rfl⟩
      obtain ⟨as0, zs0⟩ : ∃ a : Int, xs0.toInt = a := ⟨_, rfl⟩
      refine pt_1 (fun n d => r_istore (L' := [some (.ref 72), some (.int x1), some (.int x2), some (.int x3), some (.int x4), some (.int x5), some (.int x6), some (.int x7), some (.long x8), none, some (.int x10), some (.int xs0), some (.int x12)]) gx277_285 rfl rfl) ?_
      exact ih277_287 h0 h x1 x2 x3 x4 x5 x6 x7 x8 x10 xs0 _ S G I
    · intro h0 h x1 x2 x3 x4 x5 x6 x7 x8 x10 x11 u12 S G I
      obtain ⟨a1, z1⟩ : ∃ a : Int, x1.toInt = a := ⟨_, rfl⟩
      obtain ⟨a2, z2⟩ : ∃ a : Int, x2.toInt = a := ⟨_, rfl⟩
      obtain ⟨a3, z3⟩ : ∃ a : Int, x3.toInt = a := ⟨_, rfl⟩
      obtain ⟨a4, z4⟩ : ∃ a : Int, x4.toInt = a := ⟨_, rfl⟩
      obtain ⟨a5, z5⟩ : ∃ a : Int, x5.toInt = a := ⟨_, rfl⟩
      obtain ⟨a6, z6⟩ : ∃ a : Int, x6.toInt = a := ⟨_, rfl⟩
      obtain ⟨a7, z7⟩ : ∃ a : Int, x7.toInt = a := ⟨_, rfl⟩
      obtain ⟨a8, z8⟩ : ∃ a : Int, x8.toInt = a := ⟨_, rfl⟩
      obtain ⟨a10, z10⟩ : ∃ a : Int, x10.toInt = a := ⟨_, rfl⟩
      obtain ⟨a11, z11⟩ : ∃ a : Int, x11.toInt = a := ⟨_, rfl⟩
      refine pt_1 (fun n d => r_aloadn gx277_287 rfl) ?_
      refine pt_d (pt_getR gx277_288 S tr_72_69 ?_)
      refine pt_d (pt_bipush gx277_291 (fun v1002 h1002 => ?_))
      refine pt_d (pt_iald (N' := 13) gx277_293 S tl_124 h1002 (fun v1003 p1003 q1003 h1003 => ?_))
      refine pt_d (pt_if_ne gx277_294 h1003 (fun e1004 => ?_) (fun e1004 => ?_))
      · skip
        exact ih277_318 h0 h x1 x2 x3 x4 x5 x6 x7 x8 x10 x11 _ S G I
      · skip
        refine pt_d (pt_1 (fun n d => r_iload gx277_297 rfl) ?_)
        refine pt_d (pt_1 (fun n d => r_iload gx277_299 rfl) ?_)
        refine pt_d (pt_i2l gx277_301 z10 (fun v1005 h1005 => ?_))
        refine pt_d (pt_1 (fun n d => r_iload gx277_302 rfl) ?_)
        refine pt_d (pt_i2l gx277_304 z11 (fun v1006 h1006 => ?_))
        refine pt_d (pt_lmul gx277_305 h1005 h1006 (fun v1007 h1007 => ?_))
        refine pt_d (pt_ldc2_w (c := 99) gx277_306 rfl (fun v1008 h1008 => ?_))
        refine pt_d (pt_ladd gx277_309 h1007 h1008 (fun v1009 h1009 => ?_))
        refine pt_d (pt_ldc2_w (c := 100) gx277_310 rfl (fun v1010 h1010 => ?_))
        refine pt_d (pt_ldiv gx277_313 h1009 h1010 (fun v1011 h1011 => ?_))
        refine pt_d (pt_l2i gx277_314 h1011 (fun v1012 h1012 => ?_))
        refine pt_d (pt_isub gx277_315 z10 h1012 (fun v1013 h1013 => ?_))
        refine pt_d (pt_1 (fun n d => r_istore (L' := [some (.ref 72), some (.int x1), some (.int x2), some (.int x3), some (.int x4), some (.int x5), some (.int x6), some (.int x7), some (.long x8), none, some (.int v1013), some (.int x11), u12]) gx277_316 rfl rfl) ?_)
        exact ih277_318 h0 h x1 x2 x3 x4 x5 x6 x7 x8 v1013 x11 _ S G I
    · intro h0 h x1 x2 x3 x4 x5 x6 x7 x8 x10 x11 u12 S G I
      obtain ⟨a1, z1⟩ : ∃ a : Int, x1.toInt = a := ⟨_, rfl⟩
      obtain ⟨a2, z2⟩ : ∃ a : Int, x2.toInt = a := ⟨_, rfl⟩
      obtain ⟨a3, z3⟩ : ∃ a : Int, x3.toInt = a := ⟨_, rfl⟩
      obtain ⟨a4, z4⟩ : ∃ a : Int, x4.toInt = a := ⟨_, rfl⟩
      obtain ⟨a5, z5⟩ : ∃ a : Int, x5.toInt = a := ⟨_, rfl⟩
      obtain ⟨a6, z6⟩ : ∃ a : Int, x6.toInt = a := ⟨_, rfl⟩
      obtain ⟨a7, z7⟩ : ∃ a : Int, x7.toInt = a := ⟨_, rfl⟩
      obtain ⟨a8, z8⟩ : ∃ a : Int, x8.toInt = a := ⟨_, rfl⟩
      obtain ⟨a10, z10⟩ : ∃ a : Int, x10.toInt = a := ⟨_, rfl⟩
      obtain ⟨a11, z11⟩ : ∃ a : Int, x11.toInt = a := ⟨_, rfl⟩
      refine pt_1 (fun n d => r_aloadn gx277_318 rfl) ?_
      refine pt_d (pt_getR gx277_319 S tr_72_74 ?_)
      refine pt_d (pt_iconst gx277_322 (fun v1002 h1002 => ?_))
      refine pt_d (pt_1 (fun n d => r_iload gx277_323 rfl) ?_)
      refine pt_d (pt_iasth (N' := 6) gx277_325 S tl_128 h1002 z10 (fun h_1003 S1003 p1003 q1003 e1003 K1003 => ?_))
      have G1003 := hk_t G K1003
      have I1003 := IV_ua I K1003 e1003 (by decide)
      refine pt_d (pt_1 (fun n d => r_iload gx277_326 rfl) ?_)
      refine pt_d (pt_1 (fun n d => r_iload gx277_328 rfl) ?_)
      refine pt_d (pt_i2l gx277_330 z10 (fun v1004 h1004 => ?_))
      refine pt_d (pt_bipush gx277_331 (fun v1005 h1005 => ?_))
      refine pt_d (pt_1 (fun n d => r_aloadn gx277_333 rfl) ?_)
      refine pt_d (pt_getR gx277_334 S1003 tr_72_69 ?_)
      refine pt_d (pt_bipush gx277_337 (fun v1007 h1007 => ?_))
      refine pt_d (pt_iald (N' := 13) gx277_339 S1003 tl_124 h1007 (fun v1008 p1008 q1008 h1008 => ?_))
      have h1008 : v1008.toInt = vw h 124 7 := by rw [h1008, e1003, up_c (by decide)]
      refine pt_d (pt_stat (as := [.int v1005, .int v1008]) (r := [.long v1004, .int x10]) gx277_340 rfl (show zmt[211]? = some zM211 from rfl) rfl rfl rfl rfl (c_211 S1003 h1005 h1008) (kqP (fun v1009 h1009 => ?_)))
      show Pt _ _ _ 343 _ [.int v1009, .long v1004, .int x10] _ _
      refine pt_d (pt_i2l gx277_343 h1009 (fun v1010 h1010 => ?_))
      refine pt_d (pt_lmul gx277_344 h1004 h1010 (fun v1011 h1011 => ?_))
      refine pt_d (pt_ldc2_w (c := 100) gx277_345 rfl (fun v1012 h1012 => ?_))
      refine pt_d (pt_ldiv gx277_348 h1011 h1012 (fun v1013 h1013 => ?_))
      refine pt_d (pt_l2i gx277_349 h1013 (fun v1014 h1014 => ?_))
      refine pt_d (pt_isub gx277_350 z10 h1014 (fun v1015 h1015 => ?_))
      refine pt_d (pt_1 (fun n d => r_istore (L' := [some (.ref 72), some (.int x1), some (.int x2), some (.int x3), some (.int x4), some (.int x5), some (.int x6), some (.int x7), some (.long x8), none, some (.int v1015), some (.int x11), u12]) gx277_351 rfl rfl) ?_)
      refine pt_d (pt_1 (fun n d => r_aloadn gx277_353 rfl) ?_)
      refine pt_d (pt_getR gx277_354 S1003 tr_72_74 ?_)
      refine pt_d (pt_iconst gx277_357 (fun v1017 h1017 => ?_))
      refine pt_d (pt_1 (fun n d => r_iload gx277_358 rfl) ?_)
      refine pt_d (pt_iasth (N' := 6) gx277_360 S1003 tl_128 h1017 h1015 (fun h_1018 S1018 p1018 q1018 e1018 K1018 => ?_))
      have G1018 := hk_t G1003 K1018
      have I1018 := IV_ua I1003 K1018 e1018 (by decide)
      refine pt_d (pt_1 (fun n d => r_aloadn gx277_361 rfl) ?_)
      refine pt_d (pt_getR gx277_362 S1018 tr_72_74 ?_)
      refine pt_d (pt_iconst gx277_365 (fun v1020 h1020 => ?_))
      refine pt_d (pt_1 (fun n d => r_iload gx277_366 rfl) ?_)
      refine pt_d (pt_iasth (N' := 6) gx277_368 S1018 tl_128 h1020 h1015 (fun h_1021 S1021 p1021 q1021 e1021 K1021 => ?_))
      have G1021 := hk_t G1018 K1021
      have I1021 := IV_ua I1018 K1021 e1021 (by decide)
      refine pt_d (pt_1 (fun n d => r_iload gx277_369 rfl) ?_)
      exact pt_d (pt_iret gx277_371 ⟨_, rfl, S1021, G1021, I1021⟩)
theorem wk_277 {n : Nat} {X : aX} {h : aH} {x1 : Int32} {x2 : Int32} {x3 : Int32} {x4 : Int32} {a1 : Int} {a2 : Int} {a3 : Int} {a4 : Int} (S : wS h) (z1 : x1.toInt = a1) (z2 : x2.toInt = a2) (z3 : x3.toInt = a3) (z4 : x4.toInt = a4) (I : IV h) : Pt n X zM277 0 [some (.ref 72), some (.int x1), some (.int x2), some (.int x3), some (.int x4), none, none, none, none, none, none, none, none] [] h (qI (fun _ h' => wS h' ∧ hk h h' ∧ IV h')) := (wl_277 n).1 h h x1 x2 x3 x4 S (hk_r h) I

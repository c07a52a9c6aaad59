-- ===== weak contracts =====
theorem wl_291 {X : aX} : ∀ n : Nat, (∀ (h0 h : aH) (x1 : Int32) (x2 : Int32), wS h → hk h0 h → IV h → Pt n X zM291 0 [some (.ref 72), some (.int x1), some (.int x2), none] [] h (qI (fun _ h' => wS h' ∧ hk h0 h' ∧ IV h'))) ∧
    (∀ (h0 h : aH) (x1 : Int32) (x2 : Int32) (x3 : Int32), wS h → hk h0 h → IV h → Pt n X zM291 2 [some (.ref 72), some (.int x1), some (.int x2), some (.int x3)] [] h (qI (fun _ h' => wS h' ∧ hk h0 h' ∧ IV h'))) := by
  intro n
  induction n with
  | zero => refine ⟨?_, ?_⟩ <;> (intros; exact pt_z)
  | succ n ih =>
    obtain ⟨ih291_0, ih291_2⟩ := ih
    refine ⟨?_, ?_⟩
    · intro h0 h x1 x2 S G I
      obtain ⟨a1, z1⟩ : ∃ a : Int, x1.toInt = a := ⟨_, rfl⟩
      obtain ⟨a2, z2⟩ : ∃ a : Int, x2.toInt = a := ⟨_, rfl⟩
      refine pt_iconst gx291_0 (fun v1001 h1001 => ?_)
      refine pt_d (pt_1 (fun n d => r_istoren (L' := [some (.ref 72), some (.int x1), some (.int x2), some (.int v1001)]) gx291_1 rfl rfl) ?_)
      exact ih291_2 h0 h x1 x2 v1001 S G I
    · intro h0 h x1 x2 x3 S G I
      obtain ⟨a1, z1⟩ : ∃ a : Int, x1.toInt = a := ⟨_, rfl⟩
      obtain ⟨a2, z2⟩ : ∃ a : Int, x2.toInt = a := ⟨_, rfl⟩
      obtain ⟨a3, z3⟩ : ∃ a : Int, x3.toInt = a := ⟨_, rfl⟩
      refine pt_1 (fun n d => r_iloadn gx291_2 rfl) ?_
      refine pt_d (pt_1 (fun n d => r_aloadn gx291_3 rfl) ?_)
      refine pt_d (pt_getI (B := 19) gx291_4 S (fun v1001 h1001 => ?_))
      refine pt_d (pt_icmp_ge gx291_7 z3 h1001 (fun e1002 => ?_) (fun e1002 => ?_))
      · skip
        refine pt_d (pt_iconst gx291_46 (fun v1003 h1003 => ?_))
        exact pt_d (pt_iret gx291_47 ⟨_, rfl, S, G, I⟩)
      · skip
        refine pt_d (pt_1 (fun n d => r_aloadn gx291_10 rfl) ?_)
        refine pt_d (pt_getR gx291_11 S tr_72_40 ?_)
        refine pt_d (pt_1 (fun n d => r_iloadn gx291_14 rfl) ?_)
        refine pt_d (pt_zald (N' := 300) gx291_15 S tl_103 z3 (fun v1005 p1005 q1005 h1005 => ?_))
        refine pt_d (pt_if_eq gx291_16 h1005 (fun e1006 => ?_) (fun e1006 => ?_))
        · skip
          refine pt_d (pt_iinc (c := 1) gx291_40 rfl z3 (fun v1007 h1007 => ?_))
          show Pt _ _ _ _ [some (.ref 72), some (.int x1), some (.int x2), some (.int v1007)] [] _ _
          refine pt_d (pt_1 (fun n d => r_goto gx291_43) ?_)
          exact ih291_2 h0 h x1 x2 v1007 S G I
        · skip
          refine pt_d (pt_1 (fun n d => r_aloadn gx291_19 rfl) ?_)
          refine pt_d (pt_getR gx291_20 S tr_72_20 ?_)
          refine pt_d (pt_1 (fun n d => r_iloadn gx291_23 rfl) ?_)
          refine pt_d (pt_iald (N' := 300) gx291_24 S tl_87 z3 (fun v1009 p1009 q1009 h1009 => ?_))
          refine pt_d (pt_1 (fun n d => r_iloadn gx291_25 rfl) ?_)
          refine pt_d (pt_icmp_ne gx291_26 h1009 z1 (fun e1010 => ?_) (fun e1010 => ?_))
          · skip
            refine pt_d (pt_iinc (c := 1) gx291_40 rfl z3 (fun v1011 h1011 => ?_))
            show Pt _ _ _ _ [some (.ref 72), some (.int x1), some (.int x2), some (.int v1011)] [] _ _
            refine pt_d (pt_1 (fun n d => r_goto gx291_43) ?_)
            exact ih291_2 h0 h x1 x2 v1011 S G I
          · skip
            refine pt_d (pt_1 (fun n d => r_aloadn gx291_29 rfl) ?_)
            refine pt_d (pt_1 (fun n d => r_iloadn gx291_30 rfl) ?_)
            refine pt_d (pt_virt (as := [.int x3]) (r := []) gx291_31 rfl (show zmt[229]? = some zM229 from rfl) rfl rfl rfl rfl (c_229 S z3) (kqP (fun v1012 h1012 => ?_)))
            show Pt _ _ _ 34 _ [.int v1012] _ _
            refine pt_d (pt_1 (fun n d => r_iloadn gx291_34 rfl) ?_)
            refine pt_d (pt_icmp_ne gx291_35 h1012 z2 (fun e1013 => ?_) (fun e1013 => ?_))
            · skip
              refine pt_d (pt_iinc (c := 1) gx291_40 rfl z3 (fun v1014 h1014 => ?_))
              show Pt _ _ _ _ [some (.ref 72), some (.int x1), some (.int x2), some (.int v1014)] [] _ _
              refine pt_d (pt_1 (fun n d => r_goto gx291_43) ?_)
              exact ih291_2 h0 h x1 x2 v1014 S G I
            · skip
              refine pt_d (pt_iconst gx291_38 (fun v1015 h1015 => ?_))
              exact pt_d (pt_iret gx291_39 ⟨_, rfl, S, G, I⟩)
theorem wk_291 {n : Nat} {X : aX} {h : aH} {x1 : Int32} {x2 : Int32} {a1 : Int} {a2 : Int} (S : wS h) (z1 : x1.toInt = a1) (z2 : x2.toInt = a2) (I : IV h) : Pt n X zM291 0 [some (.ref 72), some (.int x1), some (.int x2), none] [] h (qI (fun _ h' => wS h' ∧ hk h h' ∧ IV h')) := (wl_291 n).1 h h x1 x2 S (hk_r h) I
theorem wl_293 {X : aX} : ∀ n : Nat, (∀ (h0 h : aH) (x1 : Int32) (x2 : Int32), wS h → hk h0 h → IV h → Pt n X zM293 0 [some (.ref 72), some (.int x1), some (.int x2)] [] h (qI (fun _ h' => wS h' ∧ hk h0 h' ∧ IV h'))) := by
  intro n
  induction n with
  | zero => refine ?_ <;> (intros; exact pt_z)
  | succ n ih =>
    have ih293_0 := ih
    refine ?_
    · intro h0 h x1 x2 S G I
      obtain ⟨a1, z1⟩ : ∃ a : Int, x1.toInt = a := ⟨_, rfl⟩
      obtain ⟨a2, z2⟩ : ∃ a : Int, x2.toInt = a := ⟨_, rfl⟩
      refine pt_1 (fun n d => r_iloadn gx293_0 rfl) ?_
      refine pt_d (pt_if_ne gx293_1 z2 (fun e1001 => ?_) (fun e1001 => ?_))
      · skip
        refine pt_d (pt_1 (fun n d => r_aloadn gx293_8 rfl) ?_)
        refine pt_d (pt_1 (fun n d => r_iloadn gx293_9 rfl) ?_)
        refine pt_d (pt_1 (fun n d => r_iloadn gx293_10 rfl) ?_)
        refine pt_d (pt_iconst gx293_11 (fun v1002 h1002 => ?_))
        refine pt_d (pt_isub gx293_12 z2 h1002 (fun v1003 h1003 => ?_))
        refine pt_d (pt_virt (as := [.int x1, .int v1003]) (r := []) gx293_13 rfl (show zmt[271]? = some zM271 from rfl) rfl rfl rfl rfl (wk_271 S z1 h1003 I) (kqI (fun v1004 y1004 h_1004 h1004 P1004 => ?_)))
        have S1004 := P1004.1
        have G1004 := hk_t G P1004.2.1
        have I1004 := P1004.2.2
        show Pt _ _ _ 16 _ [.int v1004] _ _
        exact pt_d (pt_iret gx293_16 ⟨_, rfl, S1004, G1004, I1004⟩)
      · skip
        refine pt_d (pt_iconst gx293_4 (fun v1005 h1005 => ?_))
        refine pt_d (pt_1 (fun n d => r_goto gx293_5) ?_)
        exact pt_d (pt_iret gx293_16 ⟨_, rfl, S, G, I⟩)
theorem wk_293 {n : Nat} {X : aX} {h : aH} {x1 : Int32} {x2 : Int32} {a1 : Int} {a2 : Int} (S : wS h) (z1 : x1.toInt = a1) (z2 : x2.toInt = a2) (I : IV h) : Pt n X zM293 0 [some (.ref 72), some (.int x1), some (.int x2)] [] h (qI (fun _ h' => wS h' ∧ hk h h' ∧ IV h')) := (wl_293 n) h h x1 x2 S (hk_r h) I
theorem wl_292 {X : aX} : ∀ n : Nat, (∀ (h0 h : aH) (x1 : Int32) (x2 : Int32) (x3 : Int32), wS h → hk h0 h → IV h → Pt n X zM292 0 [some (.ref 72), some (.int x1), some (.int x2), some (.int x3), none, none, none, none, none, none] [] h (qI (fun _ h' => wS h' ∧ hk h0 h' ∧ IV h'))) ∧
    (∀ (h0 h : aH) (x1 : Int32) (x2 : Int32) (x3 : Int32), wS h → hk h0 h → IV h → Pt n X zM292 24 [some (.ref 72), some (.int x1), some (.int x2), some (.int x3), none, none, none, none, none, none] [] h (qI (fun _ h' => wS h' ∧ hk h0 h' ∧ IV h'))) ∧
    (∀ (h0 h : aH) (x1 : Int32) (x2 : Int32) (x3 : Int32) (x4 : Int32) (x5 : Int32), wS h → hk h0 h → IV h → Pt n X zM292 40 [some (.ref 72), some (.int x1), some (.int x2), some (.int x3), some (.int x4), some (.int x5), none, none, none, none] [] h (qI (fun _ h' => wS h' ∧ hk h0 h' ∧ IV h'))) ∧
    (∀ (h0 h : aH) (x1 : Int32) (x2 : Int32) (x3 : Int32) (x4 : Int32) (x5 : Int32) (xs1 : Int32), wS h → hk h0 h → IV h → Pt n X zM292 89 [some (.ref 72), some (.int x1), some (.int x2), some (.int x3), some (.int x4), some (.int x5), none, none, none, none] [.int xs1, .ref 135] h (qI (fun _ h' => wS h' ∧ hk h0 h' ∧ IV h'))) ∧
    (∀ (h0 h : aH) (x1 : Int32) (x2 : Int32) (x3 : Int32) (x4 : Int32) (x5 : Int32) (xs1 : Int32) (xs2 : Int32), wS h → hk h0 h → IV h → Pt n X zM292 90 [some (.ref 72), some (.int x1), some (.int x2), some (.int x3), some (.int x4), some (.int x5), none, none, none, none] [.int xs2, .int xs1, .ref 135] h (qI (fun _ h' => wS h' ∧ hk h0 h' ∧ IV h'))) ∧
    (∀ (h0 h : aH) (x1 : Int32) (x2 : Int32) (x3 : Int32) (x4 : Int32) (x5 : Int32) (xs0 : Int32) (xs1 : Int32), wS h → hk h0 h → IV h → Pt n X zM292 108 [some (.ref 72), some (.int x1), some (.int x2), some (.int x3), some (.int x4), some (.int x5), none, none, none, none] [.int xs1, .int xs0] h (qI (fun _ h' => wS h' ∧ hk h0 h' ∧ IV h'))) ∧
    (∀ (h0 h : aH) (x1 : Int32) (x2 : Int32) (x3 : Int32) (x4 : Int32) (x5 : Int32) (x6 : Int32) (u7 : Option Value) (u8 : Option Value) (u9 : Option Value), wS h → hk h0 h → IV h → Pt n X zM292 128 [some (.ref 72), some (.int x1), some (.int x2), some (.int x3), some (.int x4), some (.int x5), some (.int x6), u7, u8, u9] [] h (qI (fun _ h' => wS h' ∧ hk h0 h' ∧ IV h'))) ∧
    (∀ (h0 h : aH) (x1 : Int32) (x2 : Int32) (x3 : Int32) (x4 : Int32) (x5 : Int32) (x6 : Int32) (x7 : Int32) (x8 : Int32) (u9 : Option Value), wS h → hk h0 h → IV h → Pt n X zM292 152 [some (.ref 72), some (.int x1), some (.int x2), some (.int x3), some (.int x4), some (.int x5), some (.int x6), some (.int x7), some (.int x8), u9] [] h (qI (fun _ h' => wS h' ∧ hk h0 h' ∧ IV h'))) ∧
    (∀ (h0 h : aH) (x1 : Int32) (x2 : Int32) (x3 : Int32) (x4 : Int32) (x5 : Int32) (x6 : Int32) (x7 : Int32) (x8 : Int32) (u9 : Option Value), wS h → hk h0 h → IV h → Pt n X zM292 193 [some (.ref 72), some (.int x1), some (.int x2), some (.int x3), some (.int x4), some (.int x5), some (.int x6), some (.int x7), some (.int x8), u9] [] h (qI (fun _ h' => wS h' ∧ hk h0 h' ∧ IV h'))) ∧
    (∀ (h0 h : aH) (x1 : Int32) (x2 : Int32) (x3 : Int32) (x4 : Int32) (x5 : Int32) (x6 : Int32) (x7 : Int32) (x8 : Int32) (u9 : Option Value), wS h → hk h0 h → IV h → Pt n X zM292 197 [some (.ref 72), some (.int x1), some (.int x2), some (.int x3), some (.int x4), some (.int x5), some (.int x6), some (.int x7), some (.int x8), u9] [] h (qI (fun _ h' => wS h' ∧ hk h0 h' ∧ IV h'))) ∧
    (∀ (h0 h : aH) (x1 : Int32) (x2 : Int32) (x3 : Int32) (x4 : Int32) (x5 : Int32) (x6 : Int32) (x7 : Int32) (x8 : Int32) (x9 : Int32), wS h → hk h0 h → IV h → Pt n X zM292 240 [some (.ref 72), some (.int x1), some (.int x2), some (.int x3), some (.int x4), some (.int x5), some (.int x6), some (.int x7), some (.int x8), some (.int x9)] [] h (qI (fun _ h' => wS h' ∧ hk h0 h' ∧ IV h'))) ∧
    (∀ (h0 h : aH) (x1 : Int32) (x2 : Int32) (x3 : Int32) (x4 : Int32) (x5 : Int32) (x6 : Int32) (x7 : Int32) (x8 : Int32) (x9 : Int32), wS h → hk h0 h → IV h → Pt n X zM292 276 [some (.ref 72), some (.int x1), some (.int x2), some (.int x3), some (.int x4), some (.int x5), some (.int x6), some (.int x7), some (.int x8), some (.int x9)] [] h (qI (fun _ h' => wS h' ∧ hk h0 h' ∧ IV h'))) ∧
    (∀ (h0 h : aH) (x1 : Int32) (x2 : Int32) (x3 : Int32) (x4 : Int32) (x5 : Int32) (x6 : Int32) (x7 : Int32) (x8 : Int32) (x9 : Int32), wS h → hk h0 h → IV h → Pt n X zM292 279 [some (.ref 72), some (.int x1), some (.int x2), some (.int x3), some (.int x4), some (.int x5), some (.int x6), some (.int x7), some (.int x8), some (.int x9)] [] h (qI (fun _ h' => wS h' ∧ hk h0 h' ∧ IV h'))) ∧
    (∀ (h0 h : aH) (x1 : Int32) (x2 : Int32) (x3 : Int32) (x4 : Int32) (x5 : Int32) (x6 : Int32) (x7 : Int32) (x8 : Int32) (u9 : Option Value), wS h → hk h0 h → IV h → Pt n X zM292 285 [some (.ref 72), some (.int x1), some (.int x2), some (.int x3), some (.int x4), some (.int x5), some (.int x6), some (.int x7), some (.int x8), u9] [] h (qI (fun _ h' => wS h' ∧ hk h0 h' ∧ IV h'))) := by
  intro n
  induction n with
  | zero => refine ⟨?_, ?_, ?_, ?_, ?_, ?_, ?_, ?_, ?_, ?_, ?_, ?_, ?_, ?_⟩ <;> (intros; exact pt_z)
  | succ n ih =>
    obtain ⟨ih292_0, ih292_24, ih292_40, ih292_89, ih292_90, ih292_108, ih292_128, ih292_152, ih292_193, ih292_197, ih292_240, ih292_276, ih292_279, ih292_285⟩ := ih
    refine ⟨?_, ?_, ?_, ?_, ?_, ?_, ?_, ?_, ?_, ?_, ?_, ?_, ?_, ?_⟩
    · intro h0 h x1 x2 x3 S G I
      obtain ⟨a1, z1⟩ : ∃ a : Int, x1.toInt = a := ⟨_, rfl⟩
      obtain ⟨a2, z2⟩ : ∃ a : Int, x2.toInt = a := ⟨_, rfl⟩
      obtain ⟨a3, z3⟩ : ∃ a : Int, x3.toInt = a := ⟨_, rfl⟩
      refine pt_1 (fun n d => r_iloadn gx292_0 rfl) ?_
      refine pt_d (pt_stat (as := [.int x1]) (r := []) gx292_1 rfl (show zmt[206]? = some zM206 from rfl) rfl rfl rfl rfl (c_206 S z1) (kqP (fun v1001 h1001 => ?_)))
      show Pt _ _ _ 4 _ [.int v1001] _ _
      refine pt_d (pt_ifB_eq gx292_4 h1001 (fun e1002 => ?_) (fun e1002 => ?_))
      · skip
        exact ih292_24 h0 h x1 x2 x3 S G I
      · skip
        refine pt_d (pt_1 (fun n d => r_iloadn gx292_7 rfl) ?_)
        refine pt_d (pt_stat (as := [.int x2]) (r := []) gx292_8 rfl (show zmt[198]? = some zM198 from rfl) rfl rfl rfl rfl (c_198 S z2) (kqP (fun v1003 h1003 => ?_)))
        show Pt _ _ _ 11 _ [.int v1003] _ _
        refine pt_d (pt_ifB_eq gx292_11 h1003 (fun e1004 => ?_) (fun e1004 => ?_))
        · skip
          exact ih292_24 h0 h x1 x2 x3 S G I
        · skip
          refine pt_d (pt_1 (fun n d => r_iloadn gx292_14 rfl) ?_)
          refine pt_d (pt_iconst gx292_15 (fun v1005 h1005 => ?_))
          refine pt_d (pt_bipush gx292_16 (fun v1006 h1006 => ?_))
          refine pt_d (pt_stat (as := [.int x3, .int v1005, .int v1006]) (r := []) gx292_18 rfl (show zmt[196]? = some zM196 from rfl) rfl rfl rfl rfl (c_196 S z3 h1005 h1006) (kqP (fun v1007 h1007 => ?_)))
          show Pt _ _ _ 21 _ [.int v1007] _ _
          refine pt_d (pt_ifB_ne gx292_21 h1007 (fun e1008 => ?_) (fun e1008 => ?_))
          · skip
            refine pt_d (pt_1 (fun n d => r_aloadn gx292_26 rfl) ?_)
            refine pt_d (pt_1 (fun n d => r_aloadn gx292_27 rfl) ?_)
            refine pt_d (pt_getI (B := 1) gx292_28 S (fun v1009 h1009 => ?_))
            refine pt_d (pt_virt (as := [.int v1009]) (r := []) gx292_31 rfl (show zmt[239]? = some zM239 from rfl) rfl rfl rfl rfl (wk_239 S h1009 I) (kqN (fun h_1010 P1010 => ?_)))
            have S1010 := P1010.1
            have G1010 := hk_t G P1010.2.1
            have I1010 := P1010.2.2
            show Pt _ _ _ 34 _ [] _ _
            refine pt_d (pt_iconst gx292_34 (fun v1011 h1011 => ?_))
            refine pt_d (pt_1 (fun n d => r_istore (L' := [some (.ref 72), some (.int x1), some (.int x2), some (.int x3), some (.int v1011), none, none, none, none, none]) gx292_35 rfl rfl) ?_)
            refine pt_d (pt_iconst gx292_37 (fun v1012 h1012 => ?_))
            refine pt_d (pt_1 (fun n d => r_istore (L' := [some (.ref 72), some (.int x1), some (.int x2), some (.int x3), some (.int v1011), some (.int v1012), none, none, none, none]) gx292_38 rfl rfl) ?_)
            exact ih292_40 h0 h_1010 x1 x2 x3 v1011 v1012 S1010 G1010 I1010
          · skip
            exact ih292_24 h0 h x1 x2 x3 S G I
    · intro h0 h x1 x2 x3 S G I
      obtain ⟨a1, z1⟩ : ∃ a : Int, x1.toInt = a := ⟨_, rfl⟩
      obtain ⟨a2, z2⟩ : ∃ a : Int, x2.toInt = a := ⟨_, rfl⟩
      obtain ⟨a3, z3⟩ : ∃ a : Int, x3.toInt = a := ⟨_, rfl⟩
      refine pt_iconst gx292_24 (fun v1001 h1001 => ?_)
      exact pt_d (pt_iret gx292_25 ⟨_, rfl, S, G, I⟩)
    · intro h0 h x1 x2 x3 x4 x5 S G I
      obtain ⟨a1, z1⟩ : ∃ a : Int, x1.toInt = a := ⟨_, rfl⟩
      obtain ⟨a2, z2⟩ : ∃ a : Int, x2.toInt = a := ⟨_, rfl⟩
      obtain ⟨a3, z3⟩ : ∃ a : Int, x3.toInt = a := ⟨_, rfl⟩
      obtain ⟨a4, z4⟩ : ∃ a : Int, x4.toInt = a := ⟨_, rfl⟩
      obtain ⟨a5, z5⟩ : ∃ a : Int, x5.toInt = a := ⟨_, rfl⟩
      refine pt_1 (fun n d => r_iload gx292_40 rfl) ?_
      refine pt_d (pt_1 (fun n d => r_aloadn gx292_42 rfl) ?_)
      refine pt_d (pt_getI (B := 2) gx292_43 S (fun v1001 h1001 => ?_))
      refine pt_d (pt_icmp_ge gx292_46 z5 h1001 (fun e1002 => ?_) (fun e1002 => ?_))
      · skip
        refine pt_d (pt_1 (fun n d => r_iloadn gx292_117 rfl) ?_)
        refine pt_d (pt_1 (fun n d => r_iload gx292_118 rfl) ?_)
        refine pt_d (pt_stat (as := [.int x3, .int x4]) (r := []) gx292_120 rfl (show zmt[211]? = some zM211 from rfl) rfl rfl rfl rfl (c_211 S z3 z4) (kqP (fun v1003 h1003 => ?_)))
        show Pt _ _ _ 123 _ [.int v1003] _ _
        refine pt_d (pt_1 (fun n d => r_istore (L' := [some (.ref 72), some (.int x1), some (.int x2), some (.int x3), some (.int x4), some (.int v1003), none, none, none, none]) gx292_123 rfl rfl) ?_)
        refine pt_d (pt_iconst gx292_125 (fun v1004 h1004 => ?_))
        refine pt_d (pt_1 (fun n d => r_istore (L' := [some (.ref 72), some (.int x1), some (.int x2), some (.int x3), some (.int x4), some (.int v1003), some (.int v1004), none, none, none]) gx292_126 rfl rfl) ?_)
        exact ih292_128 h0 h x1 x2 x3 x4 v1003 v1004 _ _ _ S G I
      · skip
        refine pt_d (pt_1 (fun n d => r_aloadn gx292_49 rfl) ?_)
        refine pt_d (pt_getR gx292_50 S tr_72_86 ?_)
        refine pt_d (pt_1 (fun n d => r_iload gx292_53 rfl) ?_)
        refine pt_d (pt_1 (fun n d => r_aloadn gx292_55 rfl) ?_)
        refine pt_d (pt_1 (fun n d => r_iload gx292_56 rfl) ?_)
        refine pt_d (pt_virt (as := [.int x5]) (r := [.int x5, .ref 135]) gx292_58 rfl (show zmt[202]? = some zM202 from rfl) rfl rfl rfl rfl (c_202 S z5) (kqP (fun v1006 h1006 => ?_)))
        show Pt _ _ _ 61 _ [.int v1006, .int x5, .ref 135] _ _
        refine pt_d (pt_ifB_eq gx292_61 h1006 (fun e1007 => ?_) (fun e1007 => ?_))
        · skip
          exact ih292_89 h0 h x1 x2 x3 x4 x5 x5 S G I
        · skip
          refine pt_d (pt_1 (fun n d => r_aloadn gx292_64 rfl) ?_)
          refine pt_d (pt_getR gx292_65 S tr_72_4 ?_)
          refine pt_d (pt_1 (fun n d => r_iload gx292_68 rfl) ?_)
          refine pt_d (pt_iald (N' := 150) gx292_70 S tl_74 z5 (fun v1009 p1009 q1009 h1009 => ?_))
          refine pt_d (pt_1 (fun n d => r_iloadn gx292_71 rfl) ?_)
          refine pt_d (pt_icmp_ne gx292_72 h1009 z1 (fun e1010 => ?_) (fun e1010 => ?_))
          · skip
            exact ih292_89 h0 h x1 x2 x3 x4 x5 x5 S G I
          · skip
            refine pt_d (pt_1 (fun n d => r_aloadn gx292_75 rfl) ?_)
            refine pt_d (pt_1 (fun n d => r_iload gx292_76 rfl) ?_)
            refine pt_d (pt_1 (fun n d => r_iloadn gx292_78 rfl) ?_)
            refine pt_d (pt_virt (as := [.int x5, .int x2]) (r := [.int x5, .ref 135]) gx292_79 rfl (show zmt[291]? = some zM291 from rfl) rfl rfl rfl rfl (wk_291 S z5 z2 I) (kqI (fun v1011 y1011 h_1011 h1011 P1011 => ?_)))
            have S1011 := P1011.1
            have G1011 := hk_t G P1011.2.1
            have I1011 := P1011.2.2
            show Pt _ _ _ 82 _ [.int v1011, .int x5, .ref 135] _ _
            refine pt_d (pt_if_eq gx292_82 h1011 (fun e1012 => ?_) (fun e1012 => ?_))
            · skip
              exact ih292_89 h0 h_1011 x1 x2 x3 x4 x5 x5 S1011 G1011 I1011
            · skip
              refine pt_d (pt_iconst gx292_85 (fun v1013 h1013 => ?_))
              refine pt_d (pt_1 (fun n d => r_goto gx292_86) ?_)
              exact ih292_90 h0 h_1011 x1 x2 x3 x4 x5 x5 v1013 S1011 G1011 I1011
    · intro h0 h x1 x2 x3 x4 x5 xs1 S G I
      obtain ⟨a1, z1⟩ : ∃ a : Int, x1.toInt = a := ⟨_, rfl⟩
      obtain ⟨a2, z2⟩ : ∃ a : Int, x2.toInt = a := ⟨_, rfl⟩
      obtain ⟨a3, z3⟩ : ∃ a : Int, x3.toInt = a := ⟨_, rfl⟩
      obtain ⟨a4, z4⟩ : ∃ a : Int, x4.toInt = a := ⟨_, rfl⟩
      obtain ⟨a5, z5⟩ : ∃ a : Int, x5.toInt = a := ⟨_, rfl⟩
      obtain ⟨as1, zs1⟩ : ∃ a : Int, xs1.toInt = a := ⟨_, rfl⟩
      refine pt_iconst gx292_89 (fun v1001 h1001 => ?_)
      exact ih292_90 h0 h x1 x2 x3 x4 x5 xs1 v1001 S G I
    · intro h0 h x1 x2 x3 x4 x5 xs1 xs2 S G I
      obtain ⟨a1, z1⟩ : ∃ a : Int, x1.toInt = a := ⟨_, rfl⟩
      obtain ⟨a2, z2⟩ : ∃ a : Int, x2.toInt = a := ⟨_, rfl⟩
      obtain ⟨a3, z3⟩ : ∃ a : Int, x3.toInt = a := ⟨_, rfl⟩
      obtain ⟨a4, z4⟩ : ∃ a : Int, x4.toInt = a := ⟨_, rfl⟩
      obtain ⟨a5, z5⟩ : ∃ a : Int, x5.toInt = a := ⟨_, rfl⟩
      obtain ⟨as1, zs1⟩ : ∃ a : Int, xs1.toInt = a := ⟨_, rfl⟩
      obtain ⟨as2, zs2⟩ : ∃ a : Int, xs2.toInt = a := ⟨_, rfl⟩
      refine pt_zasth (N' := 150) gx292_90 S tl_135 zs1 zs2 (fun h_1001 S1001 p1001 q1001 e1001 K1001 => ?_)
      have G1001 := hk_t G K1001
      have I1001 := IV_ua I K1001 e1001 (by decide)
      refine pt_d (pt_1 (fun n d => r_iload gx292_91 rfl) ?_)
      refine pt_d (pt_1 (fun n d => r_aloadn gx292_93 rfl) ?_)
      refine pt_d (pt_getR gx292_94 S1001 tr_72_86 ?_)
      refine pt_d (pt_1 (fun n d => r_iload gx292_97 rfl) ?_)
      refine pt_d (pt_zald (N' := 150) gx292_99 S1001 tl_135 z5 (fun v1003 p1003 q1003 h1003 => ?_))
      have h1003 : v1003.toInt = (up (vw h) 135 as1 (bAnd as2 1)) 135 a5 := by rw [h1003, e1001]
      refine pt_d (pt_if_eq gx292_100 h1003 (fun e1004 => ?_) (fun e1004 => ?_))
      · skip
        refine pt_d (pt_iconst gx292_107 (fun v1005 h1005 => ?_))
        exact ih292_108 h0 h_1001 x1 x2 x3 x4 x5 x4 v1005 S1001 G1001 I1001
      · skip
        refine pt_d (pt_iconst gx292_103 (fun v1006 h1006 => ?_))
        refine pt_d (pt_1 (fun n d => r_goto gx292_104) ?_)
        exact ih292_108 h0 h_1001 x1 x2 x3 x4 x5 x4 v1006 S1001 G1001 I1001
    · intro h0 h x1 x2 x3 x4 x5 xs0 xs1 S G I
      obtain ⟨a1, z1⟩ : ∃ a : Int, x1.toInt = a := ⟨_, rfl⟩
      obtain ⟨a2, z2⟩ : ∃ a : Int, x2.toInt = a := ⟨_, rfl⟩
      obtain ⟨a3, z3⟩ : ∃ a : Int, x3.toInt = a := ⟨_, rfl⟩
      obtain ⟨a4, z4⟩ : ∃ a : Int, x4.toInt = a := ⟨_, rfl⟩
      obtain ⟨a5, z5⟩ : ∃ a : Int, x5.toInt = a := ⟨_, rfl⟩
      obtain ⟨as0, zs0⟩ : ∃ a : Int, xs0.toInt = a := ⟨_, rfl⟩
      obtain ⟨as1, zs1⟩ : ∃ a : Int, xs1.toInt = a := ⟨_, rfl⟩
      refine pt_iadd gx292_108 zs0 zs1 (fun v1001 h1001 => ?_)
      refine pt_d (pt_1 (fun n d => r_istore (L' := [some (.ref 72), some (.int x1), some (.int x2), some (.int x3), some (.int v1001), some (.int x5), none, none, none, none]) gx292_109 rfl rfl) ?_)
      refine pt_d (pt_iinc (c := 1) gx292_111 rfl z5 (fun v1002 h1002 => ?_))
      show Pt _ _ _ _ [some (.ref 72), some (.int x1), some (.int x2), some (.int x3), some (.int v1001), some (.int v1002), none, none, none, none] [] _ _
      refine pt_d (pt_1 (fun n d => r_goto gx292_114) ?_)
      exact ih292_40 h0 h x1 x2 x3 v1001 v1002 S G I
    · intro h0 h x1 x2 x3 x4 x5 x6 u7 u8 u9 S G I
      obtain ⟨a1, z1⟩ : ∃ a : Int, x1.toInt = a := ⟨_, rfl⟩
      obtain ⟨a2, z2⟩ : ∃ a : Int, x2.toInt = a := ⟨_, rfl⟩
      obtain ⟨a3, z3⟩ : ∃ a : Int, x3.toInt = a := ⟨_, rfl⟩
      obtain ⟨a4, z4⟩ : ∃ a : Int, x4.toInt = a := ⟨_, rfl⟩
      obtain ⟨a5, z5⟩ : ∃ a : Int, x5.toInt = a := ⟨_, rfl⟩
      obtain ⟨a6, z6⟩ : ∃ a : Int, x6.toInt = a := ⟨_, rfl⟩
      refine pt_1 (fun n d => r_iload gx292_128 rfl) ?_
      refine pt_d (pt_1 (fun n d => r_iload gx292_130 rfl) ?_)
      refine pt_d (pt_icmp_ge gx292_132 z6 z5 (fun e1001 => ?_) (fun e1001 => ?_))
      · skip
        refine pt_d (pt_1 (fun n d => r_aloadn gx292_308 rfl) ?_)
        refine pt_d (pt_1 (fun n d => r_iload gx292_309 rfl) ?_)
        refine pt_d (pt_putIh (B := 84) gx292_311 S z5 (fun h_1002 S1002 e1002 K1002 => ?_))
        have G1002 := hk_t G K1002
        have I1002 := IV_uf I K1002 e1002 (by decide)
        refine pt_d (pt_1 (fun n d => r_iload gx292_314 rfl) ?_)
        exact pt_d (pt_iret gx292_316 ⟨_, rfl, S1002, G1002, I1002⟩)
      · skip
        refine pt_d (pt_iconst gx292_135 (fun v1003 h1003 => ?_))
        refine pt_d (pt_1 (fun n d => r_istore (L' := [some (.ref 72), some (.int x1), some (.int x2), some (.int x3), some (.int x4), some (.int x5), some (.int x6), some (.int v1003), u8, u9]) gx292_136 rfl rfl) ?_)
        refine pt_d (pt_1 (fun n d => r_iload gx292_138 rfl) ?_)
        refine pt_d (pt_1 (fun n d => r_iload gx292_140 rfl) ?_)
        refine pt_d (pt_iconst gx292_142 (fun v1004 h1004 => ?_))
        refine pt_d (pt_iadd gx292_143 z5 h1004 (fun v1005 h1005 => ?_))
        refine pt_d (pt_iconst gx292_144 (fun v1006 h1006 => ?_))
        refine pt_d (pt_idiv gx292_145 h1005 h1006 (fun v1007 h1007 => ?_))
        refine pt_d (pt_icmp_ge gx292_146 z6 h1007 (fun e1008 => ?_) (fun e1008 => ?_))
        · skip
          refine pt_d (pt_1 (fun n d => r_aloadn gx292_206 rfl) ?_)
          refine pt_d (pt_1 (fun n d => r_aloadn gx292_207 rfl) ?_)
          refine pt_d (pt_getI (B := 83) gx292_208 S (fun v1009 h1009 => ?_))
          refine pt_d (pt_ldc_w (c := 1103515245) gx292_211 rfl (fun v1010 h1010 => ?_))
          refine pt_d (pt_imul gx292_214 h1009 h1010 (fun v1011 h1011 => ?_))
          refine pt_d (pt_sipush gx292_215 (fun v1012 h1012 => ?_))
          refine pt_d (pt_iadd gx292_218 h1011 h1012 (fun v1013 h1013 => ?_))
          refine pt_d (pt_putIh (B := 83) gx292_219 S h1013 (fun h_1014 S1014 e1014 K1014 => ?_))
          have G1014 := hk_t G K1014
          have I1014 := IV_uf I K1014 e1014 (by decide)
          refine pt_d (pt_1 (fun n d => r_aloadn gx292_222 rfl) ?_)
          refine pt_d (pt_getI (B := 83) gx292_223 S1014 (fun v1015 h1015 => ?_))
          have h1015 : v1015.toInt = w32 ((w32 ((vw h 72 83) * 1103515245)) + 12345) := by rw [h1015, e1014, up_s]
          refine pt_d (pt_bipush gx292_226 (fun v1016 h1016 => ?_))
          refine pt_d (pt_iushr gx292_228 h1015 h1016 (fun v1017 h1017 => ?_))
          refine pt_d (pt_1 (fun n d => r_iload gx292_229 rfl) ?_)
          refine pt_d (pt_1 (fun n d => r_iload gx292_231 rfl) ?_)
          refine pt_d (pt_isub gx292_233 z4 z6 (fun v1018 h1018 => ?_))
          refine pt_d (pt_irem gx292_234 h1017 h1018 (fun v1019 h1019 => ?_))
          refine pt_d (pt_1 (fun n d => r_istore (L' := [some (.ref 72), some (.int x1), some (.int x2), some (.int x3), some (.int x4), some (.int x5), some (.int x6), some (.int v1003), some (.int v1019), u9]) gx292_235 rfl rfl) ?_)
          refine pt_d (pt_iconst gx292_237 (fun v1020 h1020 => ?_))
          refine pt_d (pt_1 (fun n d => r_istore (L' := [some (.ref 72), some (.int x1), some (.int x2), some (.int x3), some (.int x4), some (.int x5), some (.int x6), some (.int v1003), some (.int v1019), some (.int v1020)]) gx292_238 rfl rfl) ?_)
          exact ih292_240 h0 h_1014 x1 x2 x3 x4 x5 x6 v1003 v1019 v1020 S1014 G1014 I1014
        · skip
          refine pt_d (pt_iconst gx292_149 (fun v1021 h1021 => ?_))
          refine pt_d (pt_1 (fun n d => r_istore (L' := [some (.ref 72), some (.int x1), some (.int x2), some (.int x3), some (.int x4), some (.int x5), some (.int x6), some (.int v1003), some (.int v1021), u9]) gx292_150 rfl rfl) ?_)
          exact ih292_152 h0 h x1 x2 x3 x4 x5 x6 v1003 v1021 _ S G I
    · intro h0 h x1 x2 x3 x4 x5 x6 x7 x8 u9 S G I
      obtain ⟨a1, z1⟩ : ∃ a : Int, x1.toInt = a := ⟨_, rfl⟩
      obtain ⟨a2, z2⟩ : ∃ a : Int, x2.toInt = a := ⟨_, rfl⟩
      obtain ⟨a3, z3⟩ : ∃ a : Int, x3.toInt = a := ⟨_, rfl⟩
      obtain ⟨a4, z4⟩ : ∃ a : Int, x4.toInt = a := ⟨_, rfl⟩
      obtain ⟨a5, z5⟩ : ∃ a : Int, x5.toInt = a := ⟨_, rfl⟩
      obtain ⟨a6, z6⟩ : ∃ a : Int, x6.toInt = a := ⟨_, rfl⟩
      obtain ⟨a7, z7⟩ : ∃ a : Int, x7.toInt = a := ⟨_, rfl⟩
      obtain ⟨a8, z8⟩ : ∃ a : Int, x8.toInt = a := ⟨_, rfl⟩
      refine pt_1 (fun n d => r_iload gx292_152 rfl) ?_
      refine pt_d (pt_1 (fun n d => r_aloadn gx292_154 rfl) ?_)
      refine pt_d (pt_getI (B := 2) gx292_155 S (fun v1001 h1001 => ?_))
      refine pt_d (pt_icmp_ge gx292_158 z8 h1001 (fun e1002 => ?_) (fun e1002 => ?_))
      · skip
        refine pt_d (pt_1 (fun n d => r_goto gx292_203) ?_)
        exact ih292_285 h0 h x1 x2 x3 x4 x5 x6 x7 x8 _ S G I
      · skip
        refine pt_d (pt_1 (fun n d => r_aloadn gx292_161 rfl) ?_)
        refine pt_d (pt_getR gx292_162 S tr_72_86 ?_)
        refine pt_d (pt_1 (fun n d => r_iload gx292_165 rfl) ?_)
        refine pt_d (pt_zald (N' := 150) gx292_167 S tl_135 z8 (fun v1004 p1004 q1004 h1004 => ?_))
        refine pt_d (pt_if_eq gx292_168 h1004 (fun e1005 => ?_) (fun e1005 => ?_))
        · skip
          exact ih292_197 h0 h x1 x2 x3 x4 x5 x6 x7 x8 _ S G I
        · skip
          refine pt_d (pt_1 (fun n d => r_iload gx292_171 rfl) ?_)
          refine pt_d (pt_if_lt gx292_173 z7 (fun e1006 => ?_) (fun e1006 => ?_))
          · skip
            exact ih292_193 h0 h x1 x2 x3 x4 x5 x6 x7 x8 _ S G I
          · skip
            refine pt_d (pt_1 (fun n d => r_aloadn gx292_176 rfl) ?_)
            refine pt_d (pt_1 (fun n d => r_iload gx292_177 rfl) ?_)
            refine pt_d (pt_1 (fun n d => r_iloadn gx292_179 rfl) ?_)
            refine pt_d (pt_virt (as := [.int x8, .int x2]) (r := []) gx292_180 rfl (show zmt[293]? = some zM293 from rfl) rfl rfl rfl rfl (wk_293 S z8 z2 I) (kqI (fun v1007 y1007 h_1007 h1007 P1007 => ?_)))
            have S1007 := P1007.1
            have G1007 := hk_t G P1007.2.1
            have I1007 := P1007.2.2
            show Pt _ _ _ 183 _ [.int v1007] _ _
            refine pt_d (pt_1 (fun n d => r_aloadn gx292_183 rfl) ?_)
            refine pt_d (pt_1 (fun n d => r_iload gx292_184 rfl) ?_)
            refine pt_d (pt_1 (fun n d => r_iloadn gx292_186 rfl) ?_)
            refine pt_d (pt_virt (as := [.int x7, .int x2]) (r := [.int v1007]) gx292_187 rfl (show zmt[293]? = some zM293 from rfl) rfl rfl rfl rfl (wk_293 S1007 z7 z2 I1007) (kqI (fun v1008 y1008 h_1008 h1008 P1008 => ?_)))
            have S1008 := P1008.1
            have G1008 := hk_t G1007 P1008.2.1
            have I1008 := P1008.2.2
            show Pt _ _ _ 190 _ [.int v1008, .int v1007] _ _
            refine pt_d (pt_icmp_le gx292_190 h1007 h1008 (fun e1009 => ?_) (fun e1009 => ?_))
            · skip
              exact ih292_197 h0 h_1008 x1 x2 x3 x4 x5 x6 x7 x8 _ S1008 G1008 I1008
            · skip
              exact ih292_193 h0 h_1008 x1 x2 x3 x4 x5 x6 x7 x8 _ S1008 G1008 I1008
    · intro h0 h x1 x2 x3 x4 x5 x6 x7 x8 u9 S G I
      obtain ⟨a1, z1⟩ : ∃ a : Int, x1.toInt = a := ⟨_, rfl⟩
      obtain ⟨a2, z2⟩ : ∃ a : Int, x2.toInt = a := ⟨_, rfl⟩
      obtain ⟨a3, z3⟩ : ∃ a : Int, x3.toInt = a := ⟨_, rfl⟩
      obtain ⟨a4, z4⟩ : ∃ a : Int, x4.toInt = a := ⟨_, rfl⟩
      obtain ⟨a5, z5⟩ : ∃ a : Int, x5.toInt = a := ⟨_, rfl⟩
      obtain ⟨a6, z6⟩ : ∃ a : Int, x6.toInt = a := ⟨_, rfl⟩
      obtain ⟨a7, z7⟩ : ∃ a : Int, x7.toInt = a := ⟨_, rfl⟩
      obtain ⟨a8, z8⟩ : ∃ a : Int, x8.toInt = a := ⟨_, rfl⟩
      refine pt_1 (fun n d => r_iload gx292_193 rfl) ?_
      refine pt_d (pt_1 (fun n d => r_istore (L' := [some (.ref 72), some (.int x1), some (.int x2), some (.int x3), some (.int x4), some (.int x5), some (.int x6), some (.int x8), some (.int x8), u9]) gx292_195 rfl rfl) ?_)
      exact ih292_197 h0 h x1 x2 x3 x4 x5 x6 x8 x8 _ S G I
    · intro h0 h x1 x2 x3 x4 x5 x6 x7 x8 u9 S G I
      obtain ⟨a1, z1⟩ : ∃ a : Int, x1.toInt = a := ⟨_, rfl⟩
      obtain ⟨a2, z2⟩ : ∃ a : Int, x2.toInt = a := ⟨_, rfl⟩
      obtain ⟨a3, z3⟩ : ∃ a : Int, x3.toInt = a := ⟨_, rfl⟩
      obtain ⟨a4, z4⟩ : ∃ a : Int, x4.toInt = a := ⟨_, rfl⟩
      obtain ⟨a5, z5⟩ : ∃ a : Int, x5.toInt = a := ⟨_, rfl⟩
      obtain ⟨a6, z6⟩ : ∃ a : Int, x6.toInt = a := ⟨_, rfl⟩
      obtain ⟨a7, z7⟩ : ∃ a : Int, x7.toInt = a := ⟨_, rfl⟩
      obtain ⟨a8, z8⟩ : ∃ a : Int, x8.toInt = a := ⟨_, rfl⟩
      refine pt_iinc (c := 1) gx292_197 rfl z8 (fun v1001 h1001 => ?_)
      show Pt _ _ _ _ [some (.ref 72), some (.int x1), some (.int x2), some (.int x3), some (.int x4), some (.int x5), some (.int x6), some (.int x7), some (.int v1001), u9] [] _ _
      refine pt_d (pt_1 (fun n d => r_goto gx292_200) ?_)
      exact ih292_152 h0 h x1 x2 x3 x4 x5 x6 x7 v1001 _ S G I
    · intro h0 h x1 x2 x3 x4 x5 x6 x7 x8 x9 S G I
      obtain ⟨a1, z1⟩ : ∃ a : Int, x1.toInt = a := ⟨_, rfl⟩
      obtain ⟨a2, z2⟩ : ∃ a : Int, x2.toInt = a := ⟨_, rfl⟩
      obtain ⟨a3, z3⟩ : ∃ a : Int, x3.toInt = a := ⟨_, rfl⟩
      obtain ⟨a4, z4⟩ : ∃ a : Int, x4.toInt = a := ⟨_, rfl⟩
      obtain ⟨a5, z5⟩ : ∃ a : Int, x5.toInt = a := ⟨_, rfl⟩
      obtain ⟨a6, z6⟩ : ∃ a : Int, x6.toInt = a := ⟨_, rfl⟩
      obtain ⟨a7, z7⟩ : ∃ a : Int, x7.toInt = a := ⟨_, rfl⟩
      obtain ⟨a8, z8⟩ : ∃ a : Int, x8.toInt = a := ⟨_, rfl⟩
      obtain ⟨a9, z9⟩ : ∃ a : Int, x9.toInt = a := ⟨_, rfl⟩
      refine pt_1 (fun n d => r_iload gx292_240 rfl) ?_
      refine pt_d (pt_1 (fun n d => r_aloadn gx292_242 rfl) ?_)
      refine pt_d (pt_getI (B := 2) gx292_243 S (fun v1001 h1001 => ?_))
      refine pt_d (pt_icmp_ge gx292_246 z9 h1001 (fun e1002 => ?_) (fun e1002 => ?_))
      · skip
        exact ih292_285 h0 h x1 x2 x3 x4 x5 x6 x7 x8 _ S G I
      · skip
        refine pt_d (pt_1 (fun n d => r_iload gx292_249 rfl) ?_)
        refine pt_d (pt_if_ge gx292_251 z7 (fun e1003 => ?_) (fun e1003 => ?_))
        · skip
          exact ih292_285 h0 h x1 x2 x3 x4 x5 x6 x7 x8 _ S G I
        · skip
          refine pt_d (pt_1 (fun n d => r_aloadn gx292_254 rfl) ?_)
          refine pt_d (pt_getR gx292_255 S tr_72_86 ?_)
          refine pt_d (pt_1 (fun n d => r_iload gx292_258 rfl) ?_)
          refine pt_d (pt_zald (N' := 150) gx292_260 S tl_135 z9 (fun v1005 p1005 q1005 h1005 => ?_))
          refine pt_d (pt_if_ne gx292_261 h1005 (fun e1006 => ?_) (fun e1006 => ?_))
          · skip
            refine pt_d (pt_1 (fun n d => r_iload gx292_267 rfl) ?_)
            refine pt_d (pt_if_ne gx292_269 z8 (fun e1007 => ?_) (fun e1007 => ?_))
            · skip
              exact ih292_276 h0 h x1 x2 x3 x4 x5 x6 x7 x8 x9 S G I
            · skip
              refine pt_d (pt_1 (fun n d => r_iload gx292_272 rfl) ?_)
              refine pt_d (pt_1 (fun n d => r_istore (L' := [some (.ref 72), some (.int x1), some (.int x2), some (.int x3), some (.int x4), some (.int x5), some (.int x6), some (.int x9), some (.int x8), some (.int x9)]) gx292_274 rfl rfl) ?_)
              exact ih292_276 h0 h x1 x2 x3 x4 x5 x6 x9 x8 x9 S G I
          · skip
            refine pt_d (pt_1 (fun n d => r_goto gx292_264) ?_)
            exact ih292_279 h0 h x1 x2 x3 x4 x5 x6 x7 x8 x9 S G I
    · intro h0 h x1 x2 x3 x4 x5 x6 x7 x8 x9 S G I
      obtain ⟨a1, z1⟩ : ∃ a : Int, x1.toInt = a := ⟨_, rfl⟩
      obtain ⟨a2, z2⟩ : ∃ a : Int, x2.toInt = a := ⟨_, rfl⟩
      obtain ⟨a3, z3⟩ : ∃ a : Int, x3.toInt = a := ⟨_, rfl⟩
      obtain ⟨a4, z4⟩ : ∃ a : Int, x4.toInt = a := ⟨_, rfl⟩
      obtain ⟨a5, z5⟩ : ∃ a : Int, x5.toInt = a := ⟨_, rfl⟩
      obtain ⟨a6, z6⟩ : ∃ a : Int, x6.toInt = a := ⟨_, rfl⟩
      obtain ⟨a7, z7⟩ : ∃ a : Int, x7.toInt = a := ⟨_, rfl⟩
      obtain ⟨a8, z8⟩ : ∃ a : Int, x8.toInt = a := ⟨_, rfl⟩
      obtain ⟨a9, z9⟩ : ∃ a : Int, x9.toInt = a := ⟨_, rfl⟩
      refine pt_iinc (c := (-1)) gx292_276 rfl z8 (fun v1001 h1001 => ?_)
      show Pt _ _ _ _ [some (.ref 72), some (.int x1), some (.int x2), some (.int x3), some (.int x4), some (.int x5), some (.int x6), some (.int x7), some (.int v1001), some (.int x9)] [] _ _
      exact ih292_279 h0 h x1 x2 x3 x4 x5 x6 x7 v1001 x9 S G I
    · intro h0 h x1 x2 x3 x4 x5 x6 x7 x8 x9 S G I
      obtain ⟨a1, z1⟩ : ∃ a : Int, x1.toInt = a := ⟨_, rfl⟩
      obtain ⟨a2, z2⟩ : ∃ a : Int, x2.toInt = a := ⟨_, rfl⟩
      obtain ⟨a3, z3⟩ : ∃ a : Int, x3.toInt = a := ⟨_, rfl⟩
      obtain ⟨a4, z4⟩ : ∃ a : Int, x4.toInt = a := ⟨_, rfl⟩
      obtain ⟨a5, z5⟩ : ∃ a : Int, x5.toInt = a := ⟨_, rfl⟩
      obtain ⟨a6, z6⟩ : ∃ a : Int, x6.toInt = a := ⟨_, rfl⟩
      obtain ⟨a7, z7⟩ : ∃ a : Int, x7.toInt = a := ⟨_, rfl⟩
      obtain ⟨a8, z8⟩ : ∃ a : Int, x8.toInt = a := ⟨_, rfl⟩
      obtain ⟨a9, z9⟩ : ∃ a : Int, x9.toInt = a := ⟨_, rfl⟩
      refine pt_iinc (c := 1) gx292_279 rfl z9 (fun v1001 h1001 => ?_)
      show Pt _ _ _ _ [some (.ref 72), some (.int x1), some (.int x2), some (.int x3), some (.int x4), some (.int x5), some (.int x6), some (.int x7), some (.int x8), some (.int v1001)] [] _ _
      refine pt_d (pt_1 (fun n d => r_goto gx292_282) ?_)
      exact ih292_240 h0 h x1 x2 x3 x4 x5 x6 x7 x8 v1001 S G I
    · intro h0 h x1 x2 x3 x4 x5 x6 x7 x8 u9 S G I
      obtain ⟨a1, z1⟩ : ∃ a : Int, x1.toInt = a := ⟨_, rfl⟩
      obtain ⟨a2, z2⟩ : ∃ a : Int, x2.toInt = a := ⟨_, rfl⟩
      obtain ⟨a3, z3⟩ : ∃ a : Int, x3.toInt = a := ⟨_, rfl⟩
      obtain ⟨a4, z4⟩ : ∃ a : Int, x4.toInt = a := ⟨_, rfl⟩
      obtain ⟨a5, z5⟩ : ∃ a : Int, x5.toInt = a := ⟨_, rfl⟩
      obtain ⟨a6, z6⟩ : ∃ a : Int, x6.toInt = a := ⟨_, rfl⟩
      obtain ⟨a7, z7⟩ : ∃ a : Int, x7.toInt = a := ⟨_, rfl⟩
      obtain ⟨a8, z8⟩ : ∃ a : Int, x8.toInt = a := ⟨_, rfl⟩
      refine pt_1 (fun n d => r_aloadn gx292_285 rfl) ?_
      refine pt_d (pt_getR gx292_286 S tr_72_86 ?_)
      refine pt_d (pt_1 (fun n d => r_iload gx292_289 rfl) ?_)
      refine pt_d (pt_iconst gx292_291 (fun v1002 h1002 => ?_))
      refine pt_d (pt_zasth (N' := 150) gx292_292 S tl_135 z7 h1002 (fun h_1003 S1003 p1003 q1003 e1003 K1003 => ?_))
      have G1003 := hk_t G K1003
      have I1003 := IV_ua I K1003 e1003 (by decide)
      refine pt_d (pt_1 (fun n d => r_aloadn gx292_293 rfl) ?_)
      refine pt_d (pt_getR gx292_294 S1003 tr_72_85 ?_)
      refine pt_d (pt_1 (fun n d => r_iload gx292_297 rfl) ?_)
      refine pt_d (pt_1 (fun n d => r_iload gx292_299 rfl) ?_)
      refine pt_d (pt_iasth (N' := 9) gx292_301 S1003 tl_134 z6 z7 (fun h_1005 S1005 p1005 q1005 e1005 K1005 => ?_))
      have G1005 := hk_t G1003 K1005
      have I1005 := IV_ua I1003 K1005 e1005 (by decide)
      refine pt_d (pt_iinc (c := 1) gx292_302 rfl z6 (fun v1006 h1006 => ?_))
      show Pt _ _ _ _ [some (.ref 72), some (.int x1), some (.int x2), some (.int x3), some (.int x4), some (.int x5), some (.int v1006), some (.int x7), some (.int x8), u9] [] _ _
      refine pt_d (pt_1 (fun n d => r_goto gx292_305) ?_)
      exact ih292_128 h0 h_1005 x1 x2 x3 x4 x5 v1006 _ _ _ S1005 G1005 I1005
theorem wk_292 {n : Nat} {X : aX} {h : aH} {x1 : Int32} {x2 : Int32} {x3 : Int32} {a1 : Int} {a2 : Int} {a3 : Int} (S : wS h) (z1 : x1.toInt = a1) (z2 : x2.toInt = a2) (z3 : x3.toInt = a3) (I : IV h) : Pt n X zM292 0 [some (.ref 72), some (.int x1), some (.int x2), some (.int x3), none, none, none, none, none, none] [] h (qI (fun _ h' => wS h' ∧ hk h h' ∧ IV h')) := (wl_292 n).1 h h x1 x2 x3 S (hk_r h) I
theorem wl_295 {X : aX} : ∀ n : Nat, (∀ (h0 h : aH) (x1 : Int32) (x2 : Int32), wS h → hk h0 h → IV h → Pt n X zM295 0 [some (.ref 72), some (.int x1), some (.int x2), none] [] h (qI (fun _ h' => wS h' ∧ hk h0 h' ∧ IV h'))) ∧
    (∀ (h0 h : aH) (x1 : Int32) (x2 : Int32) (x3 : Int32), wS h → hk h0 h → IV h → Pt n X zM295 2 [some (.ref 72), some (.int x1), some (.int x2), some (.int x3)] [] h (qI (fun _ h' => wS h' ∧ hk h0 h' ∧ IV h'))) := by
  intro n
  induction n with
  | zero => refine ⟨?_, ?_⟩ <;> (intros; exact pt_z)
  | succ n ih =>
    obtain ⟨ih295_0, ih295_2⟩ := ih
    refine ⟨?_, ?_⟩
    · intro h0 h x1 x2 S G I
      obtain ⟨a1, z1⟩ : ∃ a : Int, x1.toInt = a := ⟨_, rfl⟩
      obtain ⟨a2, z2⟩ : ∃ a : Int, x2.toInt = a := ⟨_, rfl⟩
      refine pt_iconst gx295_0 (fun v1001 h1001 => ?_)
      refine pt_d (pt_1 (fun n d => r_istoren (L' := [some (.ref 72), some (.int x1), some (.int x2), some (.int v1001)]) gx295_1 rfl rfl) ?_)
      exact ih295_2 h0 h x1 x2 v1001 S G I
    · intro h0 h x1 x2 x3 S G I
      obtain ⟨a1, z1⟩ : ∃ a : Int, x1.toInt = a := ⟨_, rfl⟩
      obtain ⟨a2, z2⟩ : ∃ a : Int, x2.toInt = a := ⟨_, rfl⟩
      obtain ⟨a3, z3⟩ : ∃ a : Int, x3.toInt = a := ⟨_, rfl⟩
      refine pt_1 (fun n d => r_iloadn gx295_2 rfl) ?_
      refine pt_d (pt_1 (fun n d => r_aloadn gx295_3 rfl) ?_)
      refine pt_d (pt_getI (B := 32) gx295_4 S (fun v1001 h1001 => ?_))
      refine pt_d (pt_icmp_ge gx295_7 z3 h1001 (fun e1002 => ?_) (fun e1002 => ?_))
      · skip
        refine pt_d (pt_iconst gx295_38 (fun v1003 h1003 => ?_))
        exact pt_d (pt_iret gx295_39 ⟨_, rfl, S, G, I⟩)
      · skip
        refine pt_d (pt_1 (fun n d => r_aloadn gx295_10 rfl) ?_)
        refine pt_d (pt_getR gx295_11 S tr_72_33 ?_)
        refine pt_d (pt_1 (fun n d => r_iloadn gx295_14 rfl) ?_)
        refine pt_d (pt_iald (N' := 200) gx295_15 S tl_98 z3 (fun v1005 p1005 q1005 h1005 => ?_))
        refine pt_d (pt_1 (fun n d => r_iloadn gx295_16 rfl) ?_)
        refine pt_d (pt_icmp_ne gx295_17 h1005 z1 (fun e1006 => ?_) (fun e1006 => ?_))
        · skip
          refine pt_d (pt_iinc (c := 1) gx295_32 rfl z3 (fun v1007 h1007 => ?_))
          show Pt _ _ _ _ [some (.ref 72), some (.int x1), some (.int x2), some (.int v1007)] [] _ _
          refine pt_d (pt_1 (fun n d => r_goto gx295_35) ?_)
          exact ih295_2 h0 h x1 x2 v1007 S G I
        · skip
          refine pt_d (pt_1 (fun n d => r_aloadn gx295_20 rfl) ?_)
          refine pt_d (pt_getR gx295_21 S tr_72_35 ?_)
          refine pt_d (pt_1 (fun n d => r_iloadn gx295_24 rfl) ?_)
          refine pt_d (pt_iald (N' := 200) gx295_25 S tl_100 z3 (fun v1009 p1009 q1009 h1009 => ?_))
          refine pt_d (pt_1 (fun n d => r_iloadn gx295_26 rfl) ?_)
          refine pt_d (pt_icmp_ne gx295_27 h1009 z2 (fun e1010 => ?_) (fun e1010 => ?_))
          · skip
            refine pt_d (pt_iinc (c := 1) gx295_32 rfl z3 (fun v1011 h1011 => ?_))
            show Pt _ _ _ _ [some (.ref 72), some (.int x1), some (.int x2), some (.int v1011)] [] _ _
            refine pt_d (pt_1 (fun n d => r_goto gx295_35) ?_)
            exact ih295_2 h0 h x1 x2 v1011 S G I
          · skip
            refine pt_d (pt_iconst gx295_30 (fun v1012 h1012 => ?_))
            exact pt_d (pt_iret gx295_31 ⟨_, rfl, S, G, I⟩)
theorem wk_295 {n : Nat} {X : aX} {h : aH} {x1 : Int32} {x2 : Int32} {a1 : Int} {a2 : Int} (S : wS h) (z1 : x1.toInt = a1) (z2 : x2.toInt = a2) (I : IV h) : Pt n X zM295 0 [some (.ref 72), some (.int x1), some (.int x2), none] [] h (qI (fun _ h' => wS h' ∧ hk h h' ∧ IV h')) := (wl_295 n).1 h h x1 x2 S (hk_r h) I
theorem wl_296 {X : aX} : ∀ n : Nat, (∀ (h0 h : aH) (x0 : Int64) (x2 : Int32), wS h → hk h0 h → IV h → Pt n X zM296 0 [some (.long x0), none, some (.int x2), none, none, none] [] h (qJ (fun _ h' => wS h' ∧ hk h0 h' ∧ IV h'))) ∧
    (∀ (h0 h : aH) (x0 : Int64) (x2 : Int32) (x3 : Int64) (x5 : Int32), wS h → hk h0 h → IV h → Pt n X zM296 5 [some (.long x0), none, some (.int x2), some (.long x3), none, some (.int x5)] [] h (qJ (fun _ h' => wS h' ∧ hk h0 h' ∧ IV h'))) := by
  intro n
  induction n with
  | zero => refine ⟨?_, ?_⟩ <;> (intros; exact pt_z)
  | succ n ih =>
    obtain ⟨ih296_0, ih296_5⟩ := ih
    refine ⟨?_, ?_⟩
    · intro h0 h x0 x2 S G I
      obtain ⟨a0, z0⟩ : ∃ a : Int, x0.toInt = a := ⟨_, rfl⟩
      obtain ⟨a2, z2⟩ : ∃ a : Int, x2.toInt = a := ⟨_, rfl⟩
      refine pt_lconst (c := 1) gx296_0 rfl (fun v1001 h1001 => ?_)
      refine pt_d (pt_1 (fun n d => r_lstoren (L' := [some (.long x0), none, some (.int x2), some (.long v1001), none, none]) gx296_1 rfl rfl) ?_)
      refine pt_d (pt_iconst gx296_2 (fun v1002 h1002 => ?_))
      refine pt_d (pt_1 (fun n d => r_istore (L' := [some (.long x0), none, some (.int x2), some (.long v1001), none, some (.int v1002)]) gx296_3 rfl rfl) ?_)
      exact ih296_5 h0 h x0 x2 v1001 v1002 S G I
    · intro h0 h x0 x2 x3 x5 S G I
      obtain ⟨a0, z0⟩ : ∃ a : Int, x0.toInt = a := ⟨_, rfl⟩
      obtain ⟨a2, z2⟩ : ∃ a : Int, x2.toInt = a := ⟨_, rfl⟩
      obtain ⟨a3, z3⟩ : ∃ a : Int, x3.toInt = a := ⟨_, rfl⟩
      obtain ⟨a5, z5⟩ : ∃ a : Int, x5.toInt = a := ⟨_, rfl⟩
      refine pt_1 (fun n d => r_iload gx296_5 rfl) ?_
      refine pt_d (pt_1 (fun n d => r_iloadn gx296_7 rfl) ?_)
      refine pt_d (pt_icmp_ge gx296_8 z5 z2 (fun e1001 => ?_) (fun e1001 => ?_))
      · skip
        refine pt_d (pt_1 (fun n d => r_lloadn gx296_21 rfl) ?_)
        exact pt_d (pt_lret gx296_22 ⟨_, rfl, S, G, I⟩)
      · skip
        refine pt_d (pt_1 (fun n d => r_lloadn gx296_11 rfl) ?_)
        refine pt_d (pt_1 (fun n d => r_lloadn gx296_12 rfl) ?_)
        refine pt_d (pt_lmul gx296_13 z3 z0 (fun v1002 h1002 => ?_))
        refine pt_d (pt_1 (fun n d => r_lstoren (L' := [some (.long x0), none, some (.int x2), some (.long v1002), none, some (.int x5)]) gx296_14 rfl rfl) ?_)
        refine pt_d (pt_iinc (c := 1) gx296_15 rfl z5 (fun v1003 h1003 => ?_))
        show Pt _ _ _ _ [some (.long x0), none, some (.int x2), some (.long v1002), none, some (.int v1003)] [] _ _
        refine pt_d (pt_1 (fun n d => r_goto gx296_18) ?_)
        exact ih296_5 h0 h x0 x2 v1002 v1003 S G I
theorem wk_296 {n : Nat} {X : aX} {h : aH} {x0 : Int64} {x2 : Int32} {a0 : Int} {a2 : Int} (S : wS h) (z0 : x0.toInt = a0) (z2 : x2.toInt = a2) (I : IV h) : Pt n X zM296 0 [some (.long x0), none, some (.int x2), none, none, none] [] h (qJ (fun _ h' => wS h' ∧ hk h h' ∧ IV h')) := (wl_296 n).1 h h x0 x2 S (hk_r h) I
theorem wl_297 {X : aX} : ∀ n : Nat, (∀ (h0 h : aH) (x0 : Int32) (x1 : Int32) (x2 : Int32) (x3 : Int32), wS h → hk h0 h → IV h → Pt n X zM297 0 [some (.int x0), some (.int x1), some (.int x2), some (.int x3), none, none, none, none, none, none] [] h (qJ (fun _ h' => wS h' ∧ hk h0 h' ∧ IV h'))) ∧
    (∀ (h0 h : aH) (x0 : Int32) (x1 : Int32) (x2 : Int32) (x3 : Int32) (x4 : Int64) (x6 : Int32) (u7 : Option Value) (u9 : Option Value), wS h → hk h0 h → IV h → Pt n X zM297 6 [some (.int x0), some (.int x1), some (.int x2), some (.int x3), some (.long x4), none, some (.int x6), u7, none, u9] [] h (qJ (fun _ h' => wS h' ∧ hk h0 h' ∧ IV h'))) ∧
    (∀ (h0 h : aH) (x0 : Int32) (x1 : Int32) (x2 : Int32) (x3 : Int32) (x4 : Int64) (x6 : Int32) (x7 : Int64) (x9 : Int32), wS h → hk h0 h → IV h → Pt n X zM297 18 [some (.int x0), some (.int x1), some (.int x2), some (.int x3), some (.long x4), none, some (.int x6), some (.long x7), none, some (.int x9)] [] h (qJ (fun _ h' => wS h' ∧ hk h0 h' ∧ IV h'))) := by
  intro n
  induction n with
  | zero => refine ⟨?_, ?_, ?_⟩ <;> (intros; exact pt_z)
  | succ n ih =>
    obtain ⟨ih297_0, ih297_6, ih297_18⟩ := ih
    refine ⟨?_, ?_, ?_⟩
    · intro h0 h x0 x1 x2 x3 S G I
      obtain ⟨a0, z0⟩ : ∃ a : Int, x0.toInt = a := ⟨_, rfl⟩
      obtain ⟨a1, z1⟩ : ∃ a : Int, x1.toInt = a := ⟨_, rfl⟩
      obtain ⟨a2, z2⟩ : ∃ a : Int, x2.toInt = a := ⟨_, rfl⟩
      obtain ⟨a3, z3⟩ : ∃ a : Int, x3.toInt = a := ⟨_, rfl⟩
      refine pt_lconst (c := 0) gx297_0 rfl (fun v1001 h1001 => ?_)
      refine pt_d (pt_1 (fun n d => r_lstore (L' := [some (.int x0), some (.int x1), some (.int x2), some (.int x3), some (.long v1001), none, none, none, none, none]) gx297_1 rfl rfl) ?_)
      refine pt_d (pt_1 (fun n d => r_iloadn gx297_3 rfl) ?_)
      refine pt_d (pt_1 (fun n d => r_istore (L' := [some (.int x0), some (.int x1), some (.int x2), some (.int x3), some (.long v1001), none, some (.int x1), none, none, none]) gx297_4 rfl rfl) ?_)
      exact ih297_6 h0 h x0 x1 x2 x3 v1001 x1 _ _ S G I
    · intro h0 h x0 x1 x2 x3 x4 x6 u7 u9 S G I
      obtain ⟨a0, z0⟩ : ∃ a : Int, x0.toInt = a := ⟨_, rfl⟩
      obtain ⟨a1, z1⟩ : ∃ a : Int, x1.toInt = a := ⟨_, rfl⟩
      obtain ⟨a2, z2⟩ : ∃ a : Int, x2.toInt = a := ⟨_, rfl⟩
      obtain ⟨a3, z3⟩ : ∃ a : Int, x3.toInt = a := ⟨_, rfl⟩
      obtain ⟨a4, z4⟩ : ∃ a : Int, x4.toInt = a := ⟨_, rfl⟩
      obtain ⟨a6, z6⟩ : ∃ a : Int, x6.toInt = a := ⟨_, rfl⟩
      refine pt_1 (fun n d => r_iload gx297_6 rfl) ?_
      refine pt_d (pt_1 (fun n d => r_iloadn gx297_8 rfl) ?_)
      refine pt_d (pt_icmp_gt gx297_9 z6 z2 (fun e1001 => ?_) (fun e1001 => ?_))
      · skip
        refine pt_d (pt_1 (fun n d => r_lload gx297_82 rfl) ?_)
        exact pt_d (pt_lret gx297_84 ⟨_, rfl, S, G, I⟩)
      · skip
        refine pt_d (pt_lconst (c := 1) gx297_12 rfl (fun v1002 h1002 => ?_))
        refine pt_d (pt_1 (fun n d => r_lstore (L' := [some (.int x0), some (.int x1), some (.int x2), some (.int x3), some (.long x4), none, some (.int x6), some (.long v1002), none, u9]) gx297_13 rfl rfl) ?_)
        refine pt_d (pt_iconst gx297_15 (fun v1003 h1003 => ?_))
        refine pt_d (pt_1 (fun n d => r_istore (L' := [some (.int x0), some (.int x1), some (.int x2), some (.int x3), some (.long x4), none, some (.int x6), some (.long v1002), none, some (.int v1003)]) gx297_16 rfl rfl) ?_)
        exact ih297_18 h0 h x0 x1 x2 x3 x4 x6 v1002 v1003 S G I
    · intro h0 h x0 x1 x2 x3 x4 x6 x7 x9 S G I
      obtain ⟨a0, z0⟩ : ∃ a : Int, x0.toInt = a := ⟨_, rfl⟩
      obtain ⟨a1, z1⟩ : ∃ a : Int, x1.toInt = a := ⟨_, rfl⟩
      obtain ⟨a2, z2⟩ : ∃ a : Int, x2.toInt = a := ⟨_, rfl⟩
      obtain ⟨a3, z3⟩ : ∃ a : Int, x3.toInt = a := ⟨_, rfl⟩
      obtain ⟨a4, z4⟩ : ∃ a : Int, x4.toInt = a := ⟨_, rfl⟩
      obtain ⟨a6, z6⟩ : ∃ a : Int, x6.toInt = a := ⟨_, rfl⟩
      obtain ⟨a7, z7⟩ : ∃ a : Int, x7.toInt = a := ⟨_, rfl⟩
      obtain ⟨a9, z9⟩ : ∃ a : Int, x9.toInt = a := ⟨_, rfl⟩
      refine pt_1 (fun n d => r_iload gx297_18 rfl) ?_
      refine pt_d (pt_1 (fun n d => r_iload gx297_20 rfl) ?_)
      refine pt_d (pt_icmp_gt gx297_22 z9 z6 (fun e1001 => ?_) (fun e1001 => ?_))
      · skip
        refine pt_d (pt_1 (fun n d => r_lload gx297_48 rfl) ?_)
        refine pt_d (pt_1 (fun n d => r_lload gx297_50 rfl) ?_)
        refine pt_d (pt_1 (fun n d => r_iloadn gx297_52 rfl) ?_)
        refine pt_d (pt_i2l gx297_53 z3 (fun v1002 h1002 => ?_))
        refine pt_d (pt_1 (fun n d => r_iload gx297_54 rfl) ?_)
        refine pt_d (pt_stat (as := [.long v1002, .int x6]) (r := [.long x7, .long x4]) gx297_56 rfl (show zmt[296]? = some zM296 from rfl) rfl rfl rfl rfl (wk_296 S h1002 z6 I) (kqJ (fun v1003 y1003 h_1003 h1003 P1003 => ?_)))
        have S1003 := P1003.1
        have G1003 := hk_t G P1003.2.1
        have I1003 := P1003.2.2
        show Pt _ _ _ 59 _ [.long v1003, .long x7, .long x4] _ _
        refine pt_d (pt_lmul gx297_59 z7 h1003 (fun v1004 h1004 => ?_))
        refine pt_d (pt_bipush gx297_60 (fun v1005 h1005 => ?_))
        refine pt_d (pt_1 (fun n d => r_iloadn gx297_62 rfl) ?_)
        refine pt_d (pt_isub gx297_63 h1005 z3 (fun v1006 h1006 => ?_))
        refine pt_d (pt_i2l gx297_64 h1006 (fun v1007 h1007 => ?_))
        refine pt_d (pt_1 (fun n d => r_iloadn gx297_65 rfl) ?_)
        refine pt_d (pt_1 (fun n d => r_iload gx297_66 rfl) ?_)
        refine pt_d (pt_isub gx297_68 z0 z6 (fun v1008 h1008 => ?_))
        refine pt_d (pt_stat (as := [.long v1007, .int v1008]) (r := [.long v1004, .long x4]) gx297_69 rfl (show zmt[296]? = some zM296 from rfl) rfl rfl rfl rfl (wk_296 S1003 h1007 h1008 I1003) (kqJ (fun v1009 y1009 h_1009 h1009 P1009 => ?_)))
        have S1009 := P1009.1
        have G1009 := hk_t G1003 P1009.2.1
        have I1009 := P1009.2.2
        show Pt _ _ _ 72 _ [.long v1009, .long v1004, .long x4] _ _
        refine pt_d (pt_lmul gx297_72 h1004 h1009 (fun v1010 h1010 => ?_))
        refine pt_d (pt_ladd gx297_73 z4 h1010 (fun v1011 h1011 => ?_))
        refine pt_d (pt_1 (fun n d => r_lstore (L' := [some (.int x0), some (.int x1), some (.int x2), some (.int x3), some (.long v1011), none, some (.int x6), some (.long x7), none, some (.int x9)]) gx297_74 rfl rfl) ?_)
        refine pt_d (pt_iinc (c := 1) gx297_76 rfl z6 (fun v1012 h1012 => ?_))
        show Pt _ _ _ _ [some (.int x0), some (.int x1), some (.int x2), some (.int x3), some (.long v1011), none, some (.int v1012), some (.long x7), none, some (.int x9)] [] _ _
        refine pt_d (pt_1 (fun n d => r_goto gx297_79) ?_)
        exact ih297_6 h0 h_1009 x0 x1 x2 x3 v1011 v1012 _ _ S1009 G1009 I1009
      · skip
        refine pt_d (pt_1 (fun n d => r_lload gx297_25 rfl) ?_)
        refine pt_d (pt_1 (fun n d => r_iloadn gx297_27 rfl) ?_)
        refine pt_d (pt_1 (fun n d => r_iload gx297_28 rfl) ?_)
        refine pt_d (pt_isub gx297_30 z0 z6 (fun v1013 h1013 => ?_))
        refine pt_d (pt_1 (fun n d => r_iload gx297_31 rfl) ?_)
        refine pt_d (pt_iadd gx297_33 h1013 z9 (fun v1014 h1014 => ?_))
        refine pt_d (pt_i2l gx297_34 h1014 (fun v1015 h1015 => ?_))
        refine pt_d (pt_lmul gx297_35 z7 h1015 (fun v1016 h1016 => ?_))
        refine pt_d (pt_1 (fun n d => r_iload gx297_36 rfl) ?_)
        refine pt_d (pt_i2l gx297_38 z9 (fun v1017 h1017 => ?_))
        refine pt_d (pt_ldiv gx297_39 h1016 h1017 (fun v1018 h1018 => ?_))
        refine pt_d (pt_1 (fun n d => r_lstore (L' := [some (.int x0), some (.int x1), some (.int x2), some (.int x3), some (.long x4), none, some (.int x6), some (.long v1018), none, some (.int x9)]) gx297_40 rfl rfl) ?_)
        refine pt_d (pt_iinc (c := 1) gx297_42 rfl z9 (fun v1019 h1019 => ?_))
        show Pt _ _ _ _ [some (.int x0), some (.int x1), some (.int x2), some (.int x3), some (.long x4), none, some (.int x6), some (.long v1018), none, some (.int v1019)] [] _ _
        refine pt_d (pt_1 (fun n d => r_goto gx297_45) ?_)
        exact ih297_18 h0 h x0 x1 x2 x3 x4 x6 v1018 v1019 S G I
theorem wk_297 {n : Nat} {X : aX} {h : aH} {x0 : Int32} {x1 : Int32} {x2 : Int32} {x3 : Int32} {a0 : Int} {a1 : Int} {a2 : Int} {a3 : Int} (S : wS h) (z0 : x0.toInt = a0) (z1 : x1.toInt = a1) (z2 : x2.toInt = a2) (z3 : x3.toInt = a3) (I : IV h) : Pt n X zM297 0 [some (.int x0), some (.int x1), some (.int x2), some (.int x3), none, none, none, none, none, none] [] h (qJ (fun _ h' => wS h' ∧ hk h h' ∧ IV h')) := (wl_297 n).1 h h x0 x1 x2 x3 S (hk_r h) I
theorem wl_298 {X : aX} : ∀ n : Nat, (∀ (h0 h : aH) (x1 : Int32) (x2 : Int32) (x3 : Int32), wS h → hk h0 h → IV h → Pt n X zM298 0 [some (.ref 72), some (.int x1), some (.int x2), some (.int x3), none, none, none, none, none, none] [] h (qI (fun _ h' => wS h' ∧ hk h0 h' ∧ IV h'))) ∧
    (∀ (h0 h : aH) (x1 : Int32) (x2 : Int32) (x3 : Int32), wS h → hk h0 h → IV h → Pt n X zM298 46 [some (.ref 72), some (.int x1), some (.int x2), some (.int x3), none, none, none, none, none, none] [] h (qI (fun _ h' => wS h' ∧ hk h0 h' ∧ IV h'))) ∧
    (∀ (h0 h : aH) (x1 : Int32) (x2 : Int32) (x3 : Int32), wS h → hk h0 h → IV h → Pt n X zM298 48 [some (.ref 72), some (.int x1), some (.int x2), some (.int x3), none, none, none, none, none, none] [] h (qI (fun _ h' => wS h' ∧ hk h0 h' ∧ IV h'))) ∧
    (∀ (h0 h : aH) (x1 : Int32) (x2 : Int32) (x3 : Int32) (x4 : Int32) (x5 : Int32) (x6 : Int32) (x7 : Int32) (x8 : Int32) (u9 : Option Value), wS h → hk h0 h → IV h → Pt n X zM298 71 [some (.ref 72), some (.int x1), some (.int x2), some (.int x3), some (.int x4), some (.int x5), some (.int x6), some (.int x7), some (.int x8), u9] [] h (qI (fun _ h' => wS h' ∧ hk h0 h' ∧ IV h'))) ∧
    (∀ (h0 h : aH) (x1 : Int32) (x2 : Int32) (x3 : Int32) (x4 : Int32) (x5 : Int32) (x6 : Int32) (x7 : Int32) (x8 : Int32) (u9 : Option Value) (xs0 : Int32), wS h → hk h0 h → IV h → Pt n X zM298 118 [some (.ref 72), some (.int x1), some (.int x2), some (.int x3), some (.int x4), some (.int x5), some (.int x6), some (.int x7), some (.int x8), u9] [.int xs0] h (qI (fun _ h' => wS h' ∧ hk h0 h' ∧ IV h'))) ∧
    (∀ (h0 h : aH) (x1 : Int32) (x2 : Int32) (x3 : Int32) (x4 : Int32) (x5 : Int32) (x6 : Int32) (x7 : Int32) (x8 : Int32) (x9 : Int32) (xs0 : Int32) (xs1 : Int32), wS h → hk h0 h → IV h → Pt n X zM298 142 [some (.ref 72), some (.int x1), some (.int x2), some (.int x3), some (.int x4), some (.int x5), some (.int x6), some (.int x7), some (.int x8), some (.int x9)] [.int xs1, .int xs0] h (qI (fun _ h' => wS h' ∧ hk h0 h' ∧ IV h'))) ∧
    (∀ (h0 h : aH) (x1 : Int32) (x2 : Int32) (x3 : Int32) (x4 : Int32) (x5 : Int32) (x6 : Int32) (x7 : Int32) (x8 : Int32) (x9 : Int32), wS h → hk h0 h → IV h → Pt n X zM298 145 [some (.ref 72), some (.int x1), some (.int x2), some (.int x3), some (.int x4), some (.int x5), some (.int x6), some (.int x7), some (.int x8), some (.int x9)] [] h (qI (fun _ h' => wS h' ∧ hk h0 h' ∧ IV h'))) ∧
    (∀ (h0 h : aH) (x1 : Int32) (x2 : Int32) (x3 : Int32) (x4 : Int32) (x5 : Int32) (x6 : Int32) (x7 : Int32) (x8 : Int32) (x9 : Int32) (xs0 : Int32) (xs1 : Int32), wS h → hk h0 h → IV h → Pt n X zM298 160 [some (.ref 72), some (.int x1), some (.int x2), some (.int x3), some (.int x4), some (.int x5), some (.int x6), some (.int x7), some (.int x8), some (.int x9)] [.int xs1, .int xs0] h (qI (fun _ h' => wS h' ∧ hk h0 h' ∧ IV h'))) ∧
    (∀ (h0 h : aH) (x1 : Int32) (x2 : Int32) (x3 : Int32) (x4 : Int32) (x5 : Int32) (x6 : Int32) (x7 : Int32) (x8 : Int32) (u9 : Option Value), wS h → hk h0 h → IV h → Pt n X zM298 163 [some (.ref 72), some (.int x1), some (.int x2), some (.int x3), some (.int x4), some (.int x5), some (.int x6), some (.int x7), some (.int x8), u9] [] h (qI (fun _ h' => wS h' ∧ hk h0 h' ∧ IV h'))) ∧
    (∀ (h0 h : aH) (x1 : Int32) (x2 : Int32) (x3 : Int32) (x4 : Int32) (x5 : Int32) (x6 : Int32) (x7 : Int32) (x8 : Int32) (u9 : Option Value) (xs0 : Int32), wS h → hk h0 h → IV h → Pt n X zM298 185 [some (.ref 72), some (.int x1), some (.int x2), some (.int x3), some (.int x4), some (.int x5), some (.int x6), some (.int x7), some (.int x8), u9] [.int xs0] h (qI (fun _ h' => wS h' ∧ hk h0 h' ∧ IV h'))) ∧
    (∀ (h0 h : aH) (x1 : Int32) (x2 : Int32) (x3 : Int32) (x4 : Int32) (x5 : Int32) (x6 : Int32) (x7 : Int32) (x8 : Int64) (xs0 : Int32), wS h → hk h0 h → IV h → Pt n X zM298 254 [some (.ref 72), some (.int x1), some (.int x2), some (.int x3), some (.int x4), some (.int x5), some (.int x6), some (.int x7), some (.long x8), none] [.int xs0] h (qI (fun _ h' => wS h' ∧ hk h0 h' ∧ IV h'))) := by
  intro n
  induction n with
  | zero => refine ⟨?_, ?_, ?_, ?_, ?_, ?_, ?_, ?_, ?_, ?_, ?_⟩ <;> (intros; exact pt_z)
  | succ n ih =>
    obtain ⟨ih298_0, ih298_46, ih298_48, ih298_71, ih298_118, ih298_142, ih298_145, ih298_160, ih298_163, ih298_185, ih298_254⟩ := ih
    refine ⟨?_, ?_, ?_, ?_, ?_, ?_, ?_, ?_, ?_, ?_, ?_⟩
    · intro h0 h x1 x2 x3 S G I
      obtain ⟨a1, z1⟩ : ∃ a : Int, x1.toInt = a := ⟨_, rfl⟩
      obtain ⟨a2, z2⟩ : ∃ a : Int, x2.toInt = a := ⟨_, rfl⟩
      obtain ⟨a3, z3⟩ : ∃ a : Int, x3.toInt = a := ⟨_, rfl⟩
      refine pt_1 (fun n d => r_iloadn gx298_0 rfl) ?_
      refine pt_d (pt_stat (as := [.int x1]) (r := []) gx298_1 rfl (show zmt[198]? = some zM198 from rfl) rfl rfl rfl rfl (c_198 S z1) (kqP (fun v1001 h1001 => ?_)))
      show Pt _ _ _ 4 _ [.int v1001] _ _
      refine pt_d (pt_ifB_eq gx298_4 h1001 (fun e1002 => ?_) (fun e1002 => ?_))
      · skip
        exact ih298_46 h0 h x1 x2 x3 S G I
      · skip
        refine pt_d (pt_1 (fun n d => r_iloadn gx298_7 rfl) ?_)
        refine pt_d (pt_iconst gx298_8 (fun v1003 h1003 => ?_))
        refine pt_d (pt_iconst gx298_9 (fun v1004 h1004 => ?_))
        refine pt_d (pt_stat (as := [.int x2, .int v1003, .int v1004]) (r := []) gx298_10 rfl (show zmt[196]? = some zM196 from rfl) rfl rfl rfl rfl (c_196 S z2 h1003 h1004) (kqP (fun v1005 h1005 => ?_)))
        show Pt _ _ _ 13 _ [.int v1005] _ _
        refine pt_d (pt_ifB_eq gx298_13 h1005 (fun e1006 => ?_) (fun e1006 => ?_))
        · skip
          exact ih298_46 h0 h x1 x2 x3 S G I
        · skip
          refine pt_d (pt_1 (fun n d => r_iloadn gx298_16 rfl) ?_)
          refine pt_d (pt_iconst gx298_17 (fun v1007 h1007 => ?_))
          refine pt_d (pt_icmp_ne gx298_18 z2 h1007 (fun e1008 => ?_) (fun e1008 => ?_))
          · skip
            exact ih298_48 h0 h x1 x2 x3 S G I
          · skip
            refine pt_d (pt_1 (fun n d => r_iloadn gx298_21 rfl) ?_)
            refine pt_d (pt_bipush gx298_22 (fun v1009 h1009 => ?_))
            refine pt_d (pt_sipush gx298_24 (fun v1010 h1010 => ?_))
            refine pt_d (pt_stat (as := [.int x3, .int v1009, .int v1010]) (r := []) gx298_27 rfl (show zmt[196]? = some zM196 from rfl) rfl rfl rfl rfl (c_196 S z3 h1009 h1010) (kqP (fun v1011 h1011 => ?_)))
            show Pt _ _ _ 30 _ [.int v1011] _ _
            refine pt_d (pt_ifB_eq gx298_30 h1011 (fun e1012 => ?_) (fun e1012 => ?_))
            · skip
              exact ih298_46 h0 h x1 x2 x3 S G I
            · skip
              refine pt_d (pt_1 (fun n d => r_iloadn gx298_33 rfl) ?_)
              refine pt_d (pt_bipush gx298_34 (fun v1013 h1013 => ?_))
              refine pt_d (pt_irem gx298_36 z3 h1013 (fun v1014 h1014 => ?_))
              refine pt_d (pt_iconst gx298_37 (fun v1015 h1015 => ?_))
              refine pt_d (pt_bipush gx298_38 (fun v1016 h1016 => ?_))
              refine pt_d (pt_stat (as := [.int v1014, .int v1015, .int v1016]) (r := []) gx298_40 rfl (show zmt[196]? = some zM196 from rfl) rfl rfl rfl rfl (c_196 S h1014 h1015 h1016) (kqP (fun v1017 h1017 => ?_)))
              show Pt _ _ _ 43 _ [.int v1017] _ _
              refine pt_d (pt_ifB_ne gx298_43 h1017 (fun e1018 => ?_) (fun e1018 => ?_))
              · skip
                exact ih298_48 h0 h x1 x2 x3 S G I
              · skip
                exact ih298_46 h0 h x1 x2 x3 S G I
    · intro h0 h x1 x2 x3 S G I
      obtain ⟨a1, z1⟩ : ∃ a : Int, x1.toInt = a := ⟨_, rfl⟩
      obtain ⟨a2, z2⟩ : ∃ a : Int, x2.toInt = a := ⟨_, rfl⟩
      obtain ⟨a3, z3⟩ : ∃ a : Int, x3.toInt = a := ⟨_, rfl⟩
      refine pt_iconst gx298_46 (fun v1001 h1001 => ?_)
      exact pt_d (pt_iret gx298_47 ⟨_, rfl, S, G, I⟩)
    · intro h0 h x1 x2 x3 S G I
      obtain ⟨a1, z1⟩ : ∃ a : Int, x1.toInt = a := ⟨_, rfl⟩
      obtain ⟨a2, z2⟩ : ∃ a : Int, x2.toInt = a := ⟨_, rfl⟩
      obtain ⟨a3, z3⟩ : ∃ a : Int, x3.toInt = a := ⟨_, rfl⟩
      refine pt_1 (fun n d => r_aloadn gx298_48 rfl) ?_
      refine pt_d (pt_1 (fun n d => r_aloadn gx298_49 rfl) ?_)
      refine pt_d (pt_getI (B := 1) gx298_50 S (fun v1001 h1001 => ?_))
      refine pt_d (pt_virt (as := [.int v1001]) (r := []) gx298_53 rfl (show zmt[239]? = some zM239 from rfl) rfl rfl rfl rfl (wk_239 S h1001 I) (kqN (fun h_1002 P1002 => ?_)))
      have S1002 := P1002.1
      have G1002 := hk_t G P1002.2.1
      have I1002 := P1002.2.2
      show Pt _ _ _ 56 _ [] _ _
      refine pt_d (pt_iconst gx298_56 (fun v1003 h1003 => ?_))
      refine pt_d (pt_1 (fun n d => r_istore (L' := [some (.ref 72), some (.int x1), some (.int x2), some (.int x3), some (.int v1003), none, none, none, none, none]) gx298_57 rfl rfl) ?_)
      refine pt_d (pt_iconst gx298_59 (fun v1004 h1004 => ?_))
      refine pt_d (pt_1 (fun n d => r_istore (L' := [some (.ref 72), some (.int x1), some (.int x2), some (.int x3), some (.int v1003), some (.int v1004), none, none, none, none]) gx298_60 rfl rfl) ?_)
      refine pt_d (pt_iconst gx298_62 (fun v1005 h1005 => ?_))
      refine pt_d (pt_1 (fun n d => r_istore (L' := [some (.ref 72), some (.int x1), some (.int x2), some (.int x3), some (.int v1003), some (.int v1004), some (.int v1005), none, none, none]) gx298_63 rfl rfl) ?_)
      refine pt_d (pt_iconst gx298_65 (fun v1006 h1006 => ?_))
      refine pt_d (pt_1 (fun n d => r_istore (L' := [some (.ref 72), some (.int x1), some (.int x2), some (.int x3), some (.int v1003), some (.int v1004), some (.int v1005), some (.int v1006), none, none]) gx298_66 rfl rfl) ?_)
      refine pt_d (pt_iconst gx298_68 (fun v1007 h1007 => ?_))
      refine pt_d (pt_1 (fun n d => r_istore (L' := [some (.ref 72), some (.int x1), some (.int x2), some (.int x3), some (.int v1003), some (.int v1004), some (.int v1005), some (.int v1006), some (.int v1007), none]) gx298_69 rfl rfl) ?_)
      exact ih298_71 h0 h_1002 x1 x2 x3 v1003 v1004 v1005 v1006 v1007 _ S1002 G1002 I1002
    · intro h0 h x1 x2 x3 x4 x5 x6 x7 x8 u9 S G I
      obtain ⟨a1, z1⟩ : ∃ a : Int, x1.toInt = a := ⟨_, rfl⟩
      obtain ⟨a2, z2⟩ : ∃ a : Int, x2.toInt = a := ⟨_, rfl⟩
      obtain ⟨a3, z3⟩ : ∃ a : Int, x3.toInt = a := ⟨_, rfl⟩
      obtain ⟨a4, z4⟩ : ∃ a : Int, x4.toInt = a := ⟨_, rfl⟩
      obtain ⟨a5, z5⟩ : ∃ a : Int, x5.toInt = a := ⟨_, rfl⟩
      obtain ⟨a6, z6⟩ : ∃ a : Int, x6.toInt = a := ⟨_, rfl⟩
      obtain ⟨a7, z7⟩ : ∃ a : Int, x7.toInt = a := ⟨_, rfl⟩
      obtain ⟨a8, z8⟩ : ∃ a : Int, x8.toInt = a := ⟨_, rfl⟩
      refine pt_1 (fun n d => r_iload gx298_71 rfl) ?_
      refine pt_d (pt_1 (fun n d => r_aloadn gx298_73 rfl) ?_)
      refine pt_d (pt_getI (B := 2) gx298_74 S (fun v1001 h1001 => ?_))
      refine pt_d (pt_icmp_ge gx298_77 z8 h1001 (fun e1002 => ?_) (fun e1002 => ?_))
      · skip
        refine pt_d (pt_1 (fun n d => r_iloadn gx298_169 rfl) ?_)
        refine pt_d (pt_iconst gx298_170 (fun v1003 h1003 => ?_))
        refine pt_d (pt_icmp_ge gx298_171 z2 h1003 (fun e1004 => ?_) (fun e1004 => ?_))
        · skip
          refine pt_d (pt_1 (fun n d => r_iloadn gx298_186 rfl) ?_)
          refine pt_d (pt_bipush gx298_187 (fun v1005 h1005 => ?_))
          refine pt_d (pt_irem gx298_189 z3 h1005 (fun v1006 h1006 => ?_))
          refine pt_d (pt_i2l gx298_190 h1006 (fun v1007 h1007 => ?_))
          refine pt_d (pt_ldc2_w (c := 100) gx298_191 rfl (fun v1008 h1008 => ?_))
          refine pt_d (pt_1 (fun n d => r_iload gx298_194 rfl) ?_)
          refine pt_d (pt_stat (as := [.long v1008, .int x6]) (r := [.long v1007]) gx298_196 rfl (show zmt[296]? = some zM296 from rfl) rfl rfl rfl rfl (wk_296 S h1008 z6 I) (kqJ (fun v1009 y1009 h_1009 h1009 P1009 => ?_)))
          have S1009 := P1009.1
          have G1009 := hk_t G P1009.2.1
          have I1009 := P1009.2.2
          show Pt _ _ _ 199 _ [.long v1009, .long v1007] _ _
          refine pt_d (pt_lmul gx298_199 h1007 h1009 (fun v1010 h1010 => ?_))
          refine pt_d (pt_1 (fun n d => r_lstore (L' := [some (.ref 72), some (.int x1), some (.int x2), some (.int x3), some (.int x4), some (.int x5), some (.int x6), some (.int x7), some (.long v1010), none]) gx298_200 rfl rfl) ?_)
          refine pt_d (pt_ldc2_w (c := 100) gx298_202 rfl (fun v1011 h1011 => ?_))
          refine pt_d (pt_1 (fun n d => r_iload gx298_205 rfl) ?_)
          refine pt_d (pt_1 (fun n d => r_iload gx298_207 rfl) ?_)
          refine pt_d (pt_1 (fun n d => r_iload gx298_209 rfl) ?_)
          refine pt_d (pt_1 (fun n d => r_iloadn gx298_211 rfl) ?_)
          refine pt_d (pt_bipush gx298_212 (fun v1012 h1012 => ?_))
          refine pt_d (pt_idiv gx298_214 z3 h1012 (fun v1013 h1013 => ?_))
          refine pt_d (pt_stat (as := [.int x6, .int x7, .int x6, .int v1013]) (r := [.long v1011]) gx298_215 rfl (show zmt[297]? = some zM297 from rfl) rfl rfl rfl rfl (wk_297 S1009 z6 z7 z6 h1013 I1009) (kqJ (fun v1014 y1014 h_1014 h1014 P1014 => ?_)))
          have S1014 := P1014.1
          have G1014 := hk_t G1009 P1014.2.1
          have I1014 := P1014.2.2
          show Pt _ _ _ 218 _ [.long v1014, .long v1011] _ _
          refine pt_d (pt_lmul gx298_218 h1011 h1014 (fun v1015 h1015 => ?_))
          refine pt_d (pt_1 (fun n d => r_lload gx298_219 rfl) ?_)
          refine pt_d (pt_lcmp_ge gx298_221 gx298_222 h1015 h1010 (fun e1016 => ?_) (fun e1016 => ?_))
          · skip
            refine pt_d (pt_ldc2_w (c := 100) gx298_227 rfl (fun v1017 h1017 => ?_))
            refine pt_d (pt_1 (fun n d => r_iload gx298_230 rfl) ?_)
            refine pt_d (pt_iconst gx298_232 (fun v1018 h1018 => ?_))
            refine pt_d (pt_1 (fun n d => r_iload gx298_233 rfl) ?_)
            refine pt_d (pt_1 (fun n d => r_iloadn gx298_235 rfl) ?_)
            refine pt_d (pt_bipush gx298_236 (fun v1019 h1019 => ?_))
            refine pt_d (pt_idiv gx298_238 z3 h1019 (fun v1020 h1020 => ?_))
            refine pt_d (pt_stat (as := [.int x6, .int v1018, .int x7, .int v1020]) (r := [.long v1017]) gx298_239 rfl (show zmt[297]? = some zM297 from rfl) rfl rfl rfl rfl (wk_297 S1014 z6 h1018 z7 h1020 I1014) (kqJ (fun v1021 y1021 h_1021 h1021 P1021 => ?_)))
            have S1021 := P1021.1
            have G1021 := hk_t G1014 P1021.2.1
            have I1021 := P1021.2.2
            show Pt _ _ _ 242 _ [.long v1021, .long v1017] _ _
            refine pt_d (pt_lmul gx298_242 h1017 h1021 (fun v1022 h1022 => ?_))
            refine pt_d (pt_1 (fun n d => r_lload gx298_243 rfl) ?_)
            refine pt_d (pt_lcmp_ge gx298_245 gx298_246 h1022 h1010 (fun e1023 => ?_) (fun e1023 => ?_))
            · skip
              refine pt_d (pt_iconst gx298_253 (fun v1024 h1024 => ?_))
              exact ih298_254 h0 h_1021 x1 x2 x3 x4 x5 x6 x7 v1010 v1024 S1021 G1021 I1021
            · skip
              refine pt_d (pt_iconst gx298_249 (fun v1025 h1025 => ?_))
              refine pt_d (pt_1 (fun n d => r_goto gx298_250) ?_)
              exact ih298_254 h0 h_1021 x1 x2 x3 x4 x5 x6 x7 v1010 v1025 S1021 G1021 I1021
          · skip
            refine pt_d (pt_iconst gx298_225 (fun v1026 h1026 => ?_))
            exact pt_d (pt_iret gx298_226 ⟨_, rfl, S1014, G1014, I1014⟩)
        · skip
          refine pt_d (pt_1 (fun n d => r_iloadn gx298_174 rfl) ?_)
          refine pt_d (pt_if_ne gx298_175 z2 (fun e1027 => ?_) (fun e1027 => ?_))
          · skip
            refine pt_d (pt_1 (fun n d => r_iload gx298_183 rfl) ?_)
            exact ih298_185 h0 h x1 x2 x3 x4 x5 x6 x7 x8 _ x5 S G I
          · skip
            refine pt_d (pt_1 (fun n d => r_iload gx298_178 rfl) ?_)
            refine pt_d (pt_1 (fun n d => r_goto gx298_180) ?_)
            exact ih298_185 h0 h x1 x2 x3 x4 x5 x6 x7 x8 _ x4 S G I
      · skip
        refine pt_d (pt_1 (fun n d => r_aloadn gx298_80 rfl) ?_)
        refine pt_d (pt_1 (fun n d => r_iload gx298_81 rfl) ?_)
        refine pt_d (pt_virt (as := [.int x8]) (r := []) gx298_83 rfl (show zmt[202]? = some zM202 from rfl) rfl rfl rfl rfl (c_202 S z8) (kqP (fun v1028 h1028 => ?_)))
        show Pt _ _ _ 86 _ [.int v1028] _ _
        refine pt_d (pt_ifB_eq gx298_86 h1028 (fun e1029 => ?_) (fun e1029 => ?_))
        · skip
          exact ih298_163 h0 h x1 x2 x3 x4 x5 x6 x7 x8 _ S G I
        · skip
          refine pt_d (pt_1 (fun n d => r_aloadn gx298_89 rfl) ?_)
          refine pt_d (pt_1 (fun n d => r_iload gx298_90 rfl) ?_)
          refine pt_d (pt_1 (fun n d => r_iloadn gx298_92 rfl) ?_)
          refine pt_d (pt_virt (as := [.int x8, .int x1]) (r := []) gx298_93 rfl (show zmt[295]? = some zM295 from rfl) rfl rfl rfl rfl (wk_295 S z8 z1 I) (kqI (fun v1030 y1030 h_1030 h1030 P1030 => ?_)))
          have S1030 := P1030.1
          have G1030 := hk_t G P1030.2.1
          have I1030 := P1030.2.2
          show Pt _ _ _ 96 _ [.int v1030] _ _
          refine pt_d (pt_if_ne gx298_96 h1030 (fun e1031 => ?_) (fun e1031 => ?_))
          · skip
            refine pt_d (pt_1 (fun n d => r_aloadn gx298_102 rfl) ?_)
            refine pt_d (pt_1 (fun n d => r_iload gx298_103 rfl) ?_)
            refine pt_d (pt_1 (fun n d => r_iloadn gx298_105 rfl) ?_)
            refine pt_d (pt_virt (as := [.int x8, .int x1]) (r := []) gx298_106 rfl (show zmt[271]? = some zM271 from rfl) rfl rfl rfl rfl (wk_271 S1030 z8 z1 I1030) (kqI (fun v1032 y1032 h_1032 h1032 P1032 => ?_)))
            have S1032 := P1032.1
            have G1032 := hk_t G1030 P1032.2.1
            have I1032 := P1032.2.2
            show Pt _ _ _ 109 _ [.int v1032] _ _
            refine pt_d (pt_iconst gx298_109 (fun v1033 h1033 => ?_))
            refine pt_d (pt_icmp_le gx298_110 h1032 h1033 (fun e1034 => ?_) (fun e1034 => ?_))
            · skip
              refine pt_d (pt_iconst gx298_117 (fun v1035 h1035 => ?_))
              exact ih298_118 h0 h_1032 x1 x2 x3 x4 x5 x6 x7 x8 _ v1035 S1032 G1032 I1032
            · skip
              refine pt_d (pt_iconst gx298_113 (fun v1036 h1036 => ?_))
              refine pt_d (pt_1 (fun n d => r_goto gx298_114) ?_)
              exact ih298_118 h0 h_1032 x1 x2 x3 x4 x5 x6 x7 x8 _ v1036 S1032 G1032 I1032
          · skip
            refine pt_d (pt_1 (fun n d => r_goto gx298_99) ?_)
            exact ih298_163 h0 h_1030 x1 x2 x3 x4 x5 x6 x7 x8 _ S1030 G1030 I1030
    · intro h0 h x1 x2 x3 x4 x5 x6 x7 x8 u9 xs0 S G I
      obtain ⟨a1, z1⟩ : ∃ a : Int, x1.toInt = a := ⟨_, rfl⟩
      obtain ⟨a2, z2⟩ : ∃ a : Int, x2.toInt = a := ⟨_, rfl⟩
      obtain ⟨a3, z3⟩ : ∃ a : Int, x3.toInt = a := ⟨_, rfl⟩
      obtain ⟨a4, z4⟩ : ∃ a : Int, x4.toInt = a := ⟨_, rfl⟩
      obtain ⟨a5, z5⟩ : ∃ a : Int, x5.toInt = a := ⟨_, rfl⟩
      obtain ⟨a6, z6⟩ : ∃ a : Int, x6.toInt = a := ⟨_, rfl⟩
      obtain ⟨a7, z7⟩ : ∃ a : Int, x7.toInt = a := ⟨_, rfl⟩
      obtain ⟨a8, z8⟩ : ∃ a : Int, x8.toInt = a := ⟨_, rfl⟩
      obtain ⟨as0, zs0⟩ : ∃ a : Int, xs0.toInt = a := ⟨_, rfl⟩
      refine pt_1 (fun n d => r_istore (L' := [some (.ref 72), some (.int x1), some (.int x2), some (.int x3), some (.int x4), some (.int x5), some (.int x6), some (.int x7), some (.int x8), some (.int xs0)]) gx298_118 rfl rfl) ?_
      refine pt_d (pt_1 (fun n d => r_iload gx298_120 rfl) ?_)
      refine pt_d (pt_bipush gx298_122 (fun v1001 h1001 => ?_))
      refine pt_d (pt_icmp_ge gx298_124 z4 h1001 (fun e1002 => ?_) (fun e1002 => ?_))
      · skip
        exact ih298_145 h0 h x1 x2 x3 x4 x5 x6 x7 x8 xs0 S G I
      · skip
        refine pt_d (pt_iinc (c := 1) gx298_127 rfl z6 (fun v1003 h1003 => ?_))
        show Pt _ _ _ _ [some (.ref 72), some (.int x1), some (.int x2), some (.int x3), some (.int x4), some (.int x5), some (.int v1003), some (.int x7), some (.int x8), some (.int xs0)] [] _ _
        refine pt_d (pt_1 (fun n d => r_iload gx298_130 rfl) ?_)
        refine pt_d (pt_1 (fun n d => r_iload gx298_132 rfl) ?_)
        refine pt_d (pt_if_eq gx298_134 zs0 (fun e1004 => ?_) (fun e1004 => ?_))
        · skip
          refine pt_d (pt_iconst gx298_141 (fun v1005 h1005 => ?_))
          exact ih298_142 h0 h x1 x2 x3 x4 x5 v1003 x7 x8 xs0 x7 v1005 S G I
        · skip
          refine pt_d (pt_iconst gx298_137 (fun v1006 h1006 => ?_))
          refine pt_d (pt_1 (fun n d => r_goto gx298_138) ?_)
          exact ih298_142 h0 h x1 x2 x3 x4 x5 v1003 x7 x8 xs0 x7 v1006 S G I
    · intro h0 h x1 x2 x3 x4 x5 x6 x7 x8 x9 xs0 xs1 S G I
      obtain ⟨a1, z1⟩ : ∃ a : Int, x1.toInt = a := ⟨_, rfl⟩
      obtain ⟨a2, z2⟩ : ∃ a : Int, x2.toInt = a := ⟨_, rfl⟩
      obtain ⟨a3, z3⟩ : ∃ a : Int, x3.toInt = a := ⟨_, rfl⟩
      obtain ⟨a4, z4⟩ : ∃ a : Int, x4.toInt = a := ⟨_, rfl⟩
      obtain ⟨a5, z5⟩ : ∃ a : Int, x5.toInt = a := ⟨_, rfl⟩
      obtain ⟨a6, z6⟩ : ∃ a : Int, x6.toInt = a := ⟨_, rfl⟩
      obtain ⟨a7, z7⟩ : ∃ a : Int, x7.toInt = a := ⟨_, rfl⟩
      obtain ⟨a8, z8⟩ : ∃ a : Int, x8.toInt = a := ⟨_, rfl⟩
      obtain ⟨a9, z9⟩ : ∃ a : Int, x9.toInt = a := ⟨_, rfl⟩
      obtain ⟨as0, zs0⟩ : ∃ a : Int, xs0.toInt = a := ⟨_, rfl⟩
      obtain ⟨as1, zs1⟩ : ∃ a : Int, xs1.toInt = a := ⟨_, rfl⟩
      refine pt_iadd gx298_142 zs0 zs1 (fun v1001 h1001 => ?_)
      refine pt_d (pt_1 (fun n d => r_istore (L' := [some (.ref 72), some (.int x1), some (.int x2), some (.int x3), some (.int x4), some (.int x5), some (.int x6), some (.int v1001), some (.int x8), some (.int x9)]) gx298_143 rfl rfl) ?_)
      exact ih298_145 h0 h x1 x2 x3 x4 x5 x6 v1001 x8 x9 S G I
    · intro h0 h x1 x2 x3 x4 x5 x6 x7 x8 x9 S G I
      obtain ⟨a1, z1⟩ : ∃ a : Int, x1.toInt = a := ⟨_, rfl⟩
      obtain ⟨a2, z2⟩ : ∃ a : Int, x2.toInt = a := ⟨_, rfl⟩
      obtain ⟨a3, z3⟩ : ∃ a : Int, x3.toInt = a := ⟨_, rfl⟩
      obtain ⟨a4, z4⟩ : ∃ a : Int, x4.toInt = a := ⟨_, rfl⟩
      obtain ⟨a5, z5⟩ : ∃ a : Int, x5.toInt = a := ⟨_, rfl⟩
      obtain ⟨a6, z6⟩ : ∃ a : Int, x6.toInt = a := ⟨_, rfl⟩
      obtain ⟨a7, z7⟩ : ∃ a : Int, x7.toInt = a := ⟨_, rfl⟩
      obtain ⟨a8, z8⟩ : ∃ a : Int, x8.toInt = a := ⟨_, rfl⟩
      obtain ⟨a9, z9⟩ : ∃ a : Int, x9.toInt = a := ⟨_, rfl⟩
      refine pt_iinc (c := 1) gx298_145 rfl z4 (fun v1001 h1001 => ?_)
      show Pt _ _ _ _ [some (.ref 72), some (.int x1), some (.int x2), some (.int x3), some (.int v1001), some (.int x5), some (.int x6), some (.int x7), some (.int x8), some (.int x9)] [] _ _
      refine pt_d (pt_1 (fun n d => r_iload gx298_148 rfl) ?_)
      refine pt_d (pt_1 (fun n d => r_iload gx298_150 rfl) ?_)
      refine pt_d (pt_if_eq gx298_152 z9 (fun e1002 => ?_) (fun e1002 => ?_))
      · skip
        refine pt_d (pt_iconst gx298_159 (fun v1003 h1003 => ?_))
        exact ih298_160 h0 h x1 x2 x3 v1001 x5 x6 x7 x8 x9 x5 v1003 S G I
      · skip
        refine pt_d (pt_iconst gx298_155 (fun v1004 h1004 => ?_))
        refine pt_d (pt_1 (fun n d => r_goto gx298_156) ?_)
        exact ih298_160 h0 h x1 x2 x3 v1001 x5 x6 x7 x8 x9 x5 v1004 S G I
    · intro h0 h x1 x2 x3 x4 x5 x6 x7 x8 x9 xs0 xs1 S G I
      obtain ⟨a1, z1⟩ : ∃ a : Int, x1.toInt = a := ⟨_, rfl⟩
      obtain ⟨a2, z2⟩ : ∃ a : Int, x2.toInt = a := ⟨_, rfl⟩
      obtain ⟨a3, z3⟩ : ∃ a : Int, x3.toInt = a := ⟨_, rfl⟩
      obtain ⟨a4, z4⟩ : ∃ a : Int, x4.toInt = a := ⟨_, rfl⟩
      obtain ⟨a5, z5⟩ : ∃ a : Int, x5.toInt = a := ⟨_, rfl⟩
      obtain ⟨a6, z6⟩ : ∃ a : Int, x6.toInt = a := ⟨_, rfl⟩
      obtain ⟨a7, z7⟩ : ∃ a : Int, x7.toInt = a := ⟨_, rfl⟩
      obtain ⟨a8, z8⟩ : ∃ a : Int, x8.toInt = a := ⟨_, rfl⟩
      obtain ⟨a9, z9⟩ : ∃ a : Int, x9.toInt = a := ⟨_, rfl⟩
      obtain ⟨as0, zs0⟩ : ∃ a : Int, xs0.toInt = a := ⟨_, rfl⟩
      obtain ⟨as1, zs1⟩ : ∃ a : Int, xs1.toInt = a := ⟨_, rfl⟩
      refine pt_iadd gx298_160 zs0 zs1 (fun v1001 h1001 => ?_)
      refine pt_d (pt_1 (fun n d => r_istore (L' := [some (.ref 72), some (.int x1), some (.int x2), some (.int x3), some (.int x4), some (.int v1001), some (.int x6), some (.int x7), some (.int x8), some (.int x9)]) gx298_161 rfl rfl) ?_)
      exact ih298_163 h0 h x1 x2 x3 x4 v1001 x6 x7 x8 _ S G I
    · intro h0 h x1 x2 x3 x4 x5 x6 x7 x8 u9 S G I
      obtain ⟨a1, z1⟩ : ∃ a : Int, x1.toInt = a := ⟨_, rfl⟩
      obtain ⟨a2, z2⟩ : ∃ a : Int, x2.toInt = a := ⟨_, rfl⟩
      obtain ⟨a3, z3⟩ : ∃ a : Int, x3.toInt = a := ⟨_, rfl⟩
      obtain ⟨a4, z4⟩ : ∃ a : Int, x4.toInt = a := ⟨_, rfl⟩
      obtain ⟨a5, z5⟩ : ∃ a : Int, x5.toInt = a := ⟨_, rfl⟩
      obtain ⟨a6, z6⟩ : ∃ a : Int, x6.toInt = a := ⟨_, rfl⟩
      obtain ⟨a7, z7⟩ : ∃ a : Int, x7.toInt = a := ⟨_, rfl⟩
      obtain ⟨a8, z8⟩ : ∃ a : Int, x8.toInt = a := ⟨_, rfl⟩
      refine pt_iinc (c := 1) gx298_163 rfl z8 (fun v1001 h1001 => ?_)
      show Pt _ _ _ _ [some (.ref 72), some (.int x1), some (.int x2), some (.int x3), some (.int x4), some (.int x5), some (.int x6), some (.int x7), some (.int v1001), u9] [] _ _
      refine pt_d (pt_1 (fun n d => r_goto gx298_166) ?_)
      exact ih298_71 h0 h x1 x2 x3 x4 x5 x6 x7 v1001 _ S G I
    · intro h0 h x1 x2 x3 x4 x5 x6 x7 x8 u9 xs0 S G I
      obtain ⟨a1, z1⟩ : ∃ a : Int, x1.toInt = a := ⟨_, rfl⟩
      obtain ⟨a2, z2⟩ : ∃ a : Int, x2.toInt = a := ⟨_, rfl⟩
      obtain ⟨a3, z3⟩ : ∃ a : Int, x3.toInt = a := ⟨_, rfl⟩
      obtain ⟨a4, z4⟩ : ∃ a : Int, x4.toInt = a := ⟨_, rfl⟩
      obtain ⟨a5, z5⟩ : ∃ a : Int, x5.toInt = a := ⟨_, rfl⟩
      obtain ⟨a6, z6⟩ : ∃ a : Int, x6.toInt = a := ⟨_, rfl⟩
      obtain ⟨a7, z7⟩ : ∃ a : Int, x7.toInt = a := ⟨_, rfl⟩
      obtain ⟨a8, z8⟩ : ∃ a : Int, x8.toInt = a := ⟨_, rfl⟩
      obtain ⟨as0, zs0⟩ : ∃ a : Int, xs0.toInt = a := ⟨_, rfl⟩
      exact pt_iret gx298_185 ⟨_, rfl, S, G, I⟩
    · intro h0 h x1 x2 x3 x4 x5 x6 x7 x8 xs0 S G I
      obtain ⟨a1, z1⟩ : ∃ a : Int, x1.toInt = a := ⟨_, rfl⟩
      obtain ⟨a2, z2⟩ : ∃ a : Int, x2.toInt = a := ⟨_, rfl⟩
      obtain ⟨a3, z3⟩ : ∃ a : Int, x3.toInt = a := ⟨_, rfl⟩
      obtain ⟨a4, z4⟩ : ∃ a : Int, x4.toInt = a := ⟨_, rfl⟩
      obtain ⟨a5, z5⟩ : ∃ a : Int, x5.toInt = a := ⟨_, rfl⟩
      obtain ⟨a6, z6⟩ : ∃ a : Int, x6.toInt = a := ⟨_, rfl⟩
      obtain ⟨a7, z7⟩ : ∃ a : Int, x7.toInt = a := ⟨_, rfl⟩
      obtain ⟨a8, z8⟩ : ∃ a : Int, x8.toInt = a := ⟨_, rfl⟩
      obtain ⟨as0, zs0⟩ : ∃ a : Int, xs0.toInt = a := ⟨_, rfl⟩
      exact pt_iret gx298_254 ⟨_, rfl, S, G, I⟩
theorem wk_298 {n : Nat} {X : aX} {h : aH} {x1 : Int32} {x2 : Int32} {x3 : Int32} {a1 : Int} {a2 : Int} {a3 : Int} (S : wS h) (z1 : x1.toInt = a1) (z2 : x2.toInt = a2) (z3 : x3.toInt = a3) (I : IV h) : Pt n X zM298 0 [some (.ref 72), some (.int x1), some (.int x2), some (.int x3), none, none, none, none, none, none] [] h (qI (fun _ h' => wS h' ∧ hk h h' ∧ IV h')) := (wl_298 n).1 h h x1 x2 x3 S (hk_r h) I
theorem wl_304 {X : aX} : ∀ n : Nat, (∀ (h0 h : aH) (x1 : Int32) (x2 : Int32) (x3 : Int32) (x4 : Int32), wS h → hk h0 h → IV h → Pt n X zM304 0 [some (.ref 72), some (.int x1), some (.int x2), some (.int x3), some (.int x4), none, none, none, none] [] h (qI (fun _ h' => wS h' ∧ hk h0 h' ∧ IV h'))) ∧
    (∀ (h0 h : aH) (x1 : Int32) (x2 : Int32) (x3 : Int32) (x4 : Int32), wS h → hk h0 h → IV h → Pt n X zM304 50 [some (.ref 72), some (.int x1), some (.int x2), some (.int x3), some (.int x4), none, none, none, none] [] h (qI (fun _ h' => wS h' ∧ hk h0 h' ∧ IV h'))) ∧
    (∀ (h0 h : aH) (x1 : Int32) (x2 : Int32) (x3 : Int32) (x4 : Int32) (x5 : Int32) (x6 : Int32) (u7 : Option Value) (u8 : Option Value), wS h → hk h0 h → IV h → Pt n X zM304 58 [some (.ref 72), some (.int x1), some (.int x2), some (.int x3), some (.int x4), some (.int x5), some (.int x6), u7, u8] [] h (qI (fun _ h' => wS h' ∧ hk h0 h' ∧ IV h'))) ∧
    (∀ (h0 h : aH) (x1 : Int32) (x2 : Int32) (x3 : Int32) (x4 : Int32) (x5 : Int32) (x6 : Int32) (x7 : Int32) (x8 : Int32) (xs0 : Int32) (xs1 : Int32), wS h → hk h0 h → IV h → Pt n X zM304 152 [some (.ref 72), some (.int x1), some (.int x2), some (.int x3), some (.int x4), some (.int x5), some (.int x6), some (.int x7), some (.int x8)] [.int xs1, .int xs0] h (qI (fun _ h' => wS h' ∧ hk h0 h' ∧ IV h'))) ∧
    (∀ (h0 h : aH) (x1 : Int32) (x2 : Int32) (x3 : Int32) (x4 : Int32) (x5 : Int32) (x6 : Int32) (u7 : Option Value) (u8 : Option Value), wS h → hk h0 h → IV h → Pt n X zM304 155 [some (.ref 72), some (.int x1), some (.int x2), some (.int x3), some (.int x4), some (.int x5), some (.int x6), u7, u8] [] h (qI (fun _ h' => wS h' ∧ hk h0 h' ∧ IV h'))) := by
  intro n
  induction n with
  | zero => refine ⟨?_, ?_, ?_, ?_, ?_⟩ <;> (intros; exact pt_z)
  | succ n ih =>
    obtain ⟨ih304_0, ih304_50, ih304_58, ih304_152, ih304_155⟩ := ih
    refine ⟨?_, ?_, ?_, ?_, ?_⟩
    · intro h0 h x1 x2 x3 x4 S G I
      obtain ⟨a1, z1⟩ : ∃ a : Int, x1.toInt = a := ⟨_, rfl⟩
      obtain ⟨a2, z2⟩ : ∃ a : Int, x2.toInt = a := ⟨_, rfl⟩
      obtain ⟨a3, z3⟩ : ∃ a : Int, x3.toInt = a := ⟨_, rfl⟩
      obtain ⟨a4, z4⟩ : ∃ a : Int, x4.toInt = a := ⟨_, rfl⟩
      refine pt_1 (fun n d => r_iloadn gx304_0 rfl) ?_
      refine pt_d (pt_iconst gx304_1 (fun v1001 h1001 => ?_))
      refine pt_d (pt_1 (fun n d => r_aloadn gx304_2 rfl) ?_)
      refine pt_d (pt_getI (B := 55) gx304_3 S (fun v1002 h1002 => ?_))
      refine pt_d (pt_iconst gx304_6 (fun v1003 h1003 => ?_))
      refine pt_d (pt_isub gx304_7 h1002 h1003 (fun v1004 h1004 => ?_))
      refine pt_d (pt_stat (as := [.int x1, .int v1001, .int v1004]) (r := []) gx304_8 rfl (show zmt[196]? = some zM196 from rfl) rfl rfl rfl rfl (c_196 S z1 h1001 h1004) (kqP (fun v1005 h1005 => ?_)))
      show Pt _ _ _ 11 _ [.int v1005] _ _
      refine pt_d (pt_ifB_eq gx304_11 h1005 (fun e1006 => ?_) (fun e1006 => ?_))
      · skip
        exact ih304_50 h0 h x1 x2 x3 x4 S G I
      · skip
        refine pt_d (pt_1 (fun n d => r_aloadn gx304_14 rfl) ?_)
        refine pt_d (pt_getR gx304_15 S tr_72_56 ?_)
        refine pt_d (pt_1 (fun n d => r_iloadn gx304_18 rfl) ?_)
        refine pt_d (pt_iald (N' := 16) gx304_19 S tl_116 z1 (fun v1008 p1008 q1008 h1008 => ?_))
        refine pt_d (pt_bipush gx304_20 (fun v1009 h1009 => ?_))
        refine pt_d (pt_irem gx304_22 h1008 h1009 (fun v1010 h1010 => ?_))
        refine pt_d (pt_if_ne gx304_23 h1010 (fun e1011 => ?_) (fun e1011 => ?_))
        · skip
          exact ih304_50 h0 h x1 x2 x3 x4 S G I
        · skip
          refine pt_d (pt_1 (fun n d => r_iloadn gx304_26 rfl) ?_)
          refine pt_d (pt_stat (as := [.int x2]) (r := []) gx304_27 rfl (show zmt[206]? = some zM206 from rfl) rfl rfl rfl rfl (c_206 S z2) (kqP (fun v1012 h1012 => ?_)))
          show Pt _ _ _ 30 _ [.int v1012] _ _
          refine pt_d (pt_ifB_eq gx304_30 h1012 (fun e1013 => ?_) (fun e1013 => ?_))
          · skip
            exact ih304_50 h0 h x1 x2 x3 x4 S G I
          · skip
            refine pt_d (pt_1 (fun n d => r_iloadn gx304_33 rfl) ?_)
            refine pt_d (pt_stat (as := [.int x3]) (r := []) gx304_34 rfl (show zmt[198]? = some zM198 from rfl) rfl rfl rfl rfl (c_198 S z3) (kqP (fun v1014 h1014 => ?_)))
            show Pt _ _ _ 37 _ [.int v1014] _ _
            refine pt_d (pt_ifB_eq gx304_37 h1014 (fun e1015 => ?_) (fun e1015 => ?_))
            · skip
              exact ih304_50 h0 h x1 x2 x3 x4 S G I
            · skip
              refine pt_d (pt_1 (fun n d => r_iload gx304_40 rfl) ?_)
              refine pt_d (pt_iconst gx304_42 (fun v1016 h1016 => ?_))
              refine pt_d (pt_iconst gx304_43 (fun v1017 h1017 => ?_))
              refine pt_d (pt_stat (as := [.int x4, .int v1016, .int v1017]) (r := []) gx304_44 rfl (show zmt[196]? = some zM196 from rfl) rfl rfl rfl rfl (c_196 S z4 h1016 h1017) (kqP (fun v1018 h1018 => ?_)))
              show Pt _ _ _ 47 _ [.int v1018] _ _
              refine pt_d (pt_ifB_ne gx304_47 h1018 (fun e1019 => ?_) (fun e1019 => ?_))
              · skip
                refine pt_d (pt_iconst gx304_52 (fun v1020 h1020 => ?_))
                refine pt_d (pt_1 (fun n d => r_istore (L' := [some (.ref 72), some (.int x1), some (.int x2), some (.int x3), some (.int x4), some (.int v1020), none, none, none]) gx304_53 rfl rfl) ?_)
                refine pt_d (pt_iconst gx304_55 (fun v1021 h1021 => ?_))
                refine pt_d (pt_1 (fun n d => r_istore (L' := [some (.ref 72), some (.int x1), some (.int x2), some (.int x3), some (.int x4), some (.int v1020), some (.int v1021), none, none]) gx304_56 rfl rfl) ?_)
                exact ih304_58 h0 h x1 x2 x3 x4 v1020 v1021 _ _ S G I
              · skip
                exact ih304_50 h0 h x1 x2 x3 x4 S G I
    · intro h0 h x1 x2 x3 x4 S G I
      obtain ⟨a1, z1⟩ : ∃ a : Int, x1.toInt = a := ⟨_, rfl⟩
      obtain ⟨a2, z2⟩ : ∃ a : Int, x2.toInt = a := ⟨_, rfl⟩
      obtain ⟨a3, z3⟩ : ∃ a : Int, x3.toInt = a := ⟨_, rfl⟩
      obtain ⟨a4, z4⟩ : ∃ a : Int, x4.toInt = a := ⟨_, rfl⟩
      refine pt_iconst gx304_50 (fun v1001 h1001 => ?_)
      exact pt_d (pt_iret gx304_51 ⟨_, rfl, S, G, I⟩)
    · intro h0 h x1 x2 x3 x4 x5 x6 u7 u8 S G I
      obtain ⟨a1, z1⟩ : ∃ a : Int, x1.toInt = a := ⟨_, rfl⟩
      obtain ⟨a2, z2⟩ : ∃ a : Int, x2.toInt = a := ⟨_, rfl⟩
      obtain ⟨a3, z3⟩ : ∃ a : Int, x3.toInt = a := ⟨_, rfl⟩
      obtain ⟨a4, z4⟩ : ∃ a : Int, x4.toInt = a := ⟨_, rfl⟩
      obtain ⟨a5, z5⟩ : ∃ a : Int, x5.toInt = a := ⟨_, rfl⟩
      obtain ⟨a6, z6⟩ : ∃ a : Int, x6.toInt = a := ⟨_, rfl⟩
      refine pt_1 (fun n d => r_iload gx304_58 rfl) ?_
      refine pt_d (pt_1 (fun n d => r_aloadn gx304_60 rfl) ?_)
      refine pt_d (pt_getI (B := 2) gx304_61 S (fun v1001 h1001 => ?_))
      refine pt_d (pt_icmp_ge gx304_64 z6 h1001 (fun e1002 => ?_) (fun e1002 => ?_))
      · skip
        refine pt_d (pt_1 (fun n d => r_iload gx304_161 rfl) ?_)
        exact pt_d (pt_iret gx304_163 ⟨_, rfl, S, G, I⟩)
      · skip
        refine pt_d (pt_1 (fun n d => r_aloadn gx304_67 rfl) ?_)
        refine pt_d (pt_1 (fun n d => r_iload gx304_68 rfl) ?_)
        refine pt_d (pt_virt (as := [.int x6]) (r := []) gx304_70 rfl (show zmt[202]? = some zM202 from rfl) rfl rfl rfl rfl (c_202 S z6) (kqP (fun v1003 h1003 => ?_)))
        show Pt _ _ _ 73 _ [.int v1003] _ _
        refine pt_d (pt_ifB_eq gx304_73 h1003 (fun e1004 => ?_) (fun e1004 => ?_))
        · skip
          exact ih304_155 h0 h x1 x2 x3 x4 x5 x6 _ _ S G I
        · skip
          refine pt_d (pt_1 (fun n d => r_aloadn gx304_76 rfl) ?_)
          refine pt_d (pt_getR gx304_77 S tr_72_4 ?_)
          refine pt_d (pt_1 (fun n d => r_iload gx304_80 rfl) ?_)
          refine pt_d (pt_iald (N' := 150) gx304_82 S tl_74 z6 (fun v1006 p1006 q1006 h1006 => ?_))
          refine pt_d (pt_1 (fun n d => r_iloadn gx304_83 rfl) ?_)
          refine pt_d (pt_icmp_eq gx304_84 h1006 z2 (fun e1007 => ?_) (fun e1007 => ?_))
          · skip
            refine pt_d (pt_1 (fun n d => r_aloadn gx304_90 rfl) ?_)
            refine pt_d (pt_1 (fun n d => r_iload gx304_91 rfl) ?_)
            refine pt_d (pt_1 (fun n d => r_iloadn gx304_93 rfl) ?_)
            refine pt_d (pt_1 (fun n d => r_aloadn gx304_94 rfl) ?_)
            refine pt_d (pt_getI (B := 1) gx304_95 S (fun v1008 h1008 => ?_))
            refine pt_d (pt_iconst gx304_98 (fun v1009 h1009 => ?_))
            refine pt_d (pt_virt (as := [.int x6, .int x3, .int v1008, .int v1009]) (r := []) gx304_99 rfl (show zmt[277]? = some zM277 from rfl) rfl rfl rfl rfl (wk_277 S z6 z3 h1008 h1009 I) (kqI (fun v1010 y1010 h_1010 h1010 P1010 => ?_)))
            have S1010 := P1010.1
            have G1010 := hk_t G P1010.2.1
            have I1010 := P1010.2.2
            show Pt _ _ _ 102 _ [.int v1010] _ _
            refine pt_d (pt_1 (fun n d => r_istore (L' := [some (.ref 72), some (.int x1), some (.int x2), some (.int x3), some (.int x4), some (.int x5), some (.int x6), some (.int v1010), u8]) gx304_102 rfl rfl) ?_)
            refine pt_d (pt_1 (fun n d => r_aloadn gx304_104 rfl) ?_)
            refine pt_d (pt_1 (fun n d => r_iload gx304_105 rfl) ?_)
            refine pt_d (pt_1 (fun n d => r_iloadn gx304_107 rfl) ?_)
            refine pt_d (pt_1 (fun n d => r_aloadn gx304_108 rfl) ?_)
            refine pt_d (pt_getI (B := 1) gx304_109 S1010 (fun v1011 h1011 => ?_))
            refine pt_d (pt_1 (fun n d => r_iloadn gx304_112 rfl) ?_)
            refine pt_d (pt_virt (as := [.int x6, .int x3, .int v1011, .int x1]) (r := []) gx304_113 rfl (show zmt[277]? = some zM277 from rfl) rfl rfl rfl rfl (wk_277 S1010 z6 z3 h1011 z1 I1010) (kqI (fun v1012 y1012 h_1012 h1012 P1012 => ?_)))
            have S1012 := P1012.1
            have G1012 := hk_t G1010 P1012.2.1
            have I1012 := P1012.2.2
            show Pt _ _ _ 116 _ [.int v1012] _ _
            refine pt_d (pt_1 (fun n d => r_istore (L' := [some (.ref 72), some (.int x1), some (.int x2), some (.int x3), some (.int x4), some (.int x5), some (.int x6), some (.int v1010), some (.int v1012)]) gx304_116 rfl rfl) ?_)
            refine pt_d (pt_1 (fun n d => r_iload gx304_118 rfl) ?_)
            refine pt_d (pt_1 (fun n d => r_iload gx304_120 rfl) ?_)
            refine pt_d (pt_if_ne gx304_122 z4 (fun e1013 => ?_) (fun e1013 => ?_))
            · skip
              refine pt_d (pt_1 (fun n d => r_iload gx304_140 rfl) ?_)
              refine pt_d (pt_1 (fun n d => r_iload gx304_142 rfl) ?_)
              refine pt_d (pt_icmp_ge gx304_144 h1012 h1010 (fun e1014 => ?_) (fun e1014 => ?_))
              · skip
                refine pt_d (pt_iconst gx304_151 (fun v1015 h1015 => ?_))
                exact ih304_152 h0 h_1012 x1 x2 x3 x4 x5 x6 v1010 v1012 x5 v1015 S1012 G1012 I1012
              · skip
                refine pt_d (pt_iconst gx304_147 (fun v1016 h1016 => ?_))
                refine pt_d (pt_1 (fun n d => r_goto gx304_148) ?_)
                exact ih304_152 h0 h_1012 x1 x2 x3 x4 x5 x6 v1010 v1012 x5 v1016 S1012 G1012 I1012
            · skip
              refine pt_d (pt_1 (fun n d => r_iload gx304_125 rfl) ?_)
              refine pt_d (pt_1 (fun n d => r_iload gx304_127 rfl) ?_)
              refine pt_d (pt_icmp_le gx304_129 h1012 h1010 (fun e1017 => ?_) (fun e1017 => ?_))
              · skip
                refine pt_d (pt_iconst gx304_136 (fun v1018 h1018 => ?_))
                refine pt_d (pt_1 (fun n d => r_goto gx304_137) ?_)
                exact ih304_152 h0 h_1012 x1 x2 x3 x4 x5 x6 v1010 v1012 x5 v1018 S1012 G1012 I1012
              · skip
                refine pt_d (pt_iconst gx304_132 (fun v1019 h1019 => ?_))
                refine pt_d (pt_1 (fun n d => r_goto gx304_133) ?_)
                exact ih304_152 h0 h_1012 x1 x2 x3 x4 x5 x6 v1010 v1012 x5 v1019 S1012 G1012 I1012
          · skip
            refine pt_d (pt_1 (fun n d => r_goto gx304_87) ?_)
            exact ih304_155 h0 h x1 x2 x3 x4 x5 x6 _ _ S G I
    · intro h0 h x1 x2 x3 x4 x5 x6 x7 x8 xs0 xs1 S G I
      obtain ⟨a1, z1⟩ : ∃ a : Int, x1.toInt = a := ⟨_, rfl⟩
      obtain ⟨a2, z2⟩ : ∃ a : Int, x2.toInt = a := ⟨_, rfl⟩
      obtain ⟨a3, z3⟩ : ∃ a : Int, x3.toInt = a := ⟨_, rfl⟩
      obtain ⟨a4, z4⟩ : ∃ a : Int, x4.toInt = a := ⟨_, rfl⟩
      obtain ⟨a5, z5⟩ : ∃ a : Int, x5.toInt = a := ⟨_, rfl⟩
      obtain ⟨a6, z6⟩ : ∃ a : Int, x6.toInt = a := ⟨_, rfl⟩
      obtain ⟨a7, z7⟩ : ∃ a : Int, x7.toInt = a := ⟨_, rfl⟩
      obtain ⟨a8, z8⟩ : ∃ a : Int, x8.toInt = a := ⟨_, rfl⟩
      obtain ⟨as0, zs0⟩ : ∃ a : Int, xs0.toInt = a := ⟨_, rfl⟩
      obtain ⟨as1, zs1⟩ : ∃ a : Int, xs1.toInt = a := ⟨_, rfl⟩
      refine pt_iadd gx304_152 zs0 zs1 (fun v1001 h1001 => ?_)
      refine pt_d (pt_1 (fun n d => r_istore (L' := [some (.ref 72), some (.int x1), some (.int x2), some (.int x3), some (.int x4), some (.int v1001), some (.int x6), some (.int x7), some (.int x8)]) gx304_153 rfl rfl) ?_)
      exact ih304_155 h0 h x1 x2 x3 x4 v1001 x6 _ _ S G I
    · intro h0 h x1 x2 x3 x4 x5 x6 u7 u8 S G I
      obtain ⟨a1, z1⟩ : ∃ a : Int, x1.toInt = a := ⟨_, rfl⟩
      obtain ⟨a2, z2⟩ : ∃ a : Int, x2.toInt = a := ⟨_, rfl⟩
      obtain ⟨a3, z3⟩ : ∃ a : Int, x3.toInt = a := ⟨_, rfl⟩
      obtain ⟨a4, z4⟩ : ∃ a : Int, x4.toInt = a := ⟨_, rfl⟩
      obtain ⟨a5, z5⟩ : ∃ a : Int, x5.toInt = a := ⟨_, rfl⟩
      obtain ⟨a6, z6⟩ : ∃ a : Int, x6.toInt = a := ⟨_, rfl⟩
      refine pt_iinc (c := 1) gx304_155 rfl z6 (fun v1001 h1001 => ?_)
      show Pt _ _ _ _ [some (.ref 72), some (.int x1), some (.int x2), some (.int x3), some (.int x4), some (.int x5), some (.int v1001), u7, u8] [] _ _
      refine pt_d (pt_1 (fun n d => r_goto gx304_158) ?_)
      exact ih304_58 h0 h x1 x2 x3 x4 x5 v1001 _ _ S G I
theorem wk_304 {n : Nat} {X : aX} {h : aH} {x1 : Int32} {x2 : Int32} {x3 : Int32} {x4 : Int32} {a1 : Int} {a2 : Int} {a3 : Int} {a4 : Int} (S : wS h) (z1 : x1.toInt = a1) (z2 : x2.toInt = a2) (z3 : x3.toInt = a3) (z4 : x4.toInt = a4) (I : IV h) : Pt n X zM304 0 [some (.ref 72), some (.int x1), some (.int x2), some (.int x3), some (.int x4), none, none, none, none] [] h (qI (fun _ h' => wS h' ∧ hk h h' ∧ IV h')) := (wl_304 n).1 h h x1 x2 x3 x4 S (hk_r h) I

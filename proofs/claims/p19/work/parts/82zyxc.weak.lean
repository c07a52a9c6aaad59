-- ===== weak contracts =====
theorem wl_121 {X : aX} : ∀ n : Nat, (∀ (h0 h : aH) (x1 : Int32) (q2 : Nat), wS h → hk h0 h → IV h → Pt n X zM121 0 [some (.ref 33), some (.int x1), some (.ref q2), none, none, none] [] h (qI (fun _ h' => wS h' ∧ hk h0 h' ∧ IV h'))) ∧
    (∀ (h0 h : aH) (x1 : Int32) (q2 : Nat) (x3 : Int32) (u4 : Option Value) (u5 : Option Value), wS h → hk h0 h → IV h → Pt n X zM121 8 [some (.ref 33), some (.int x1), some (.ref q2), some (.int x3), u4, u5] [] h (qI (fun _ h' => wS h' ∧ hk h0 h' ∧ IV h'))) := by
  intro n
  induction n with
  | zero => refine ⟨?_, ?_⟩ <;> (intros; exact pt_z)
  | succ n ih =>
    obtain ⟨ih121_0, ih121_8⟩ := ih
    refine ⟨?_, ?_⟩
    · intro h0 h x1 q2 S G I
      obtain ⟨a1, z1⟩ : ∃ a : Int, x1.toInt = a := ⟨_, rfl⟩
      refine pt_1 (fun n d => r_aloadn gx121_0 rfl) ?_
      refine pt_d (pt_1 (fun n d => r_iloadn gx121_1 rfl) ?_)
      refine pt_d (pt_1 (fun n d => r_aloadn gx121_2 rfl) ?_)
      refine pt_d (pt_virt (as := [.int x1, .ref q2]) (r := []) gx121_3 rfl (show zmt[123]? = some zM123 from rfl) rfl rfl rfl rfl (wk_123 S z1 I) (kqN (fun h_1001 P1001 => ?_)))
      have S1001 := P1001.1
      have G1001 := hk_t G P1001.2.1
      have I1001 := P1001.2.2
      show Pt _ _ _ 6 _ [] _ _
      refine pt_d (pt_iconst gx121_6 (fun v1002 h1002 => ?_))
      refine pt_d (pt_1 (fun n d => r_istoren (L' := [some (.ref 33), some (.int x1), some (.ref q2), some (.int v1002), none, none]) gx121_7 rfl rfl) ?_)
      exact ih121_8 h0 h_1001 x1 q2 v1002 _ _ S1001 G1001 I1001
    · intro h0 h x1 q2 x3 u4 u5 S G I
      obtain ⟨a1, z1⟩ : ∃ a : Int, x1.toInt = a := ⟨_, rfl⟩
      obtain ⟨a3, z3⟩ : ∃ a : Int, x3.toInt = a := ⟨_, rfl⟩
      refine pt_1 (fun n d => r_iloadn gx121_8 rfl) ?_
      refine pt_d (pt_sipush gx121_9 (fun v1001 h1001 => ?_))
      refine pt_d (pt_icmp_ge gx121_12 z3 h1001 (fun e1002 => ?_) (fun e1002 => ?_))
      · skip
        refine pt_d (pt_iconst gx121_83 (fun v1003 h1003 => ?_))
        exact pt_d (pt_iret gx121_84 ⟨_, rfl, S, G, I⟩)
      · skip
        refine pt_d (pt_1 (fun n d => r_aloadn gx121_15 rfl) ?_)
        refine pt_d (pt_iconst gx121_16 (fun v1004 h1004 => ?_))
        refine pt_d (pt_virt (as := [.int v1004]) (r := []) gx121_17 rfl (show zmt[128]? = some zM128 from rfl) rfl rfl rfl rfl (wk_128 S h1004 I) (kqI (fun v1005 y1005 h_1005 h1005 P1005 => ?_)))
        have S1005 := P1005.1
        have G1005 := hk_t G P1005.2.1
        have I1005 := P1005.2.2
        show Pt _ _ _ 20 _ [.int v1005] _ _
        refine pt_d (pt_1 (fun n d => r_istore (L' := [some (.ref 33), some (.int x1), some (.ref q2), some (.int x3), some (.int v1005), u5]) gx121_20 rfl rfl) ?_)
        refine pt_d (pt_iconst gx121_22 (fun v1006 h1006 => ?_))
        refine pt_d (pt_1 (fun n d => r_istore (L' := [some (.ref 33), some (.int x1), some (.ref q2), some (.int x3), some (.int v1005), some (.int v1006)]) gx121_23 rfl rfl) ?_)
        refine pt_d (pt_1 (fun n d => r_aloadn gx121_25 rfl) ?_)
        refine pt_d (pt_bipush gx121_26 (fun v1007 h1007 => ?_))
        refine pt_d (pt_virt (as := [.int v1007]) (r := []) gx121_28 rfl (show zmt[125]? = some zM125 from rfl) rfl rfl rfl rfl (wk_125 S1005 h1007 I1005) (kqI (fun v1008 y1008 h_1008 h1008 P1008 => ?_)))
        have S1008 := P1008.1
        have G1008 := hk_t G1005 P1008.2.1
        have I1008 := P1008.2.2
        show Pt _ _ _ 31 _ [.int v1008] _ _
        refine pt_d (pt_if_eq gx121_31 h1008 (fun e1009 => ?_) (fun e1009 => ?_))
        · skip
          refine pt_d (pt_1 (fun n d => r_iload gx121_53 rfl) ?_)
          refine pt_d (pt_if_eq gx121_55 h1006 (fun e1010 => absurd e1010 (by decide)) (fun e1010 => ?_))
          refine pt_d (pt_1 (fun n d => r_aloadn gx121_58 rfl) ?_)
          refine pt_d (pt_1 (fun n d => r_iloadn gx121_59 rfl) ?_)
          refine pt_d (pt_putIh (B := 14) gx121_60 S1008 z3 (fun h_1011 S1011 e1011 K1011 => ?_))
          have G1011 := hk_t G1008 K1011
          have I1011 := IV_uf I1008 K1011 e1011 (by decide)
          refine pt_d (pt_1 (fun n d => r_iload gx121_63 rfl) ?_)
          exact pt_d (pt_iret gx121_65 ⟨_, rfl, S1011, G1011, I1011⟩)
        · skip
          refine pt_d (pt_1 (fun n d => r_iload gx121_34 rfl) ?_)
          refine pt_d (pt_if_eq gx121_36 h1005 (fun e1012 => ?_) (fun e1012 => ?_))
          · skip
            refine pt_d (pt_iconst gx121_43 (fun v1013 h1013 => ?_))
            refine pt_d (pt_1 (fun n d => r_istore (L' := [some (.ref 33), some (.int x1), some (.ref q2), some (.int x3), some (.int v1005), some (.int v1013)]) gx121_44 rfl rfl) ?_)
            refine pt_d (pt_1 (fun n d => r_aloadn gx121_46 rfl) ?_)
            refine pt_d (pt_iconst gx121_47 (fun v1014 h1014 => ?_))
            refine pt_d (pt_virt (as := [.int v1014]) (r := []) gx121_48 rfl (show zmt[128]? = some zM128 from rfl) rfl rfl rfl rfl (wk_128 S1008 h1014 I1008) (kqI (fun v1015 y1015 h_1015 h1015 P1015 => ?_)))
            have S1015 := P1015.1
            have G1015 := hk_t G1008 P1015.2.1
            have I1015 := P1015.2.2
            show Pt _ _ _ 51 _ [.int v1015] _ _
            refine pt_d (pt_1 (fun n d => r_istore (L' := [some (.ref 33), some (.int x1), some (.ref q2), some (.int x3), some (.int v1015), some (.int v1013)]) gx121_51 rfl rfl) ?_)
            refine pt_d (pt_1 (fun n d => r_iload gx121_53 rfl) ?_)
            refine pt_d (pt_if_eq gx121_55 h1013 (fun e1016 => ?_) (fun e1016 => absurd e1016 (by decide)))
            refine pt_d (pt_1 (fun n d => r_aloadn gx121_66 rfl) ?_)
            refine pt_d (pt_bipush gx121_67 (fun v1017 h1017 => ?_))
            refine pt_d (pt_virt (as := [.int v1017]) (r := []) gx121_69 rfl (show zmt[125]? = some zM125 from rfl) rfl rfl rfl rfl (wk_125 S1015 h1017 I1015) (kqI (fun v1018 y1018 h_1018 h1018 P1018 => ?_)))
            have S1018 := P1018.1
            have G1018 := hk_t G1015 P1018.2.1
            have I1018 := P1018.2.2
            show Pt _ _ _ 72 _ [.int v1018] _ _
            refine pt_d (pt_if_ne gx121_72 h1018 (fun e1019 => ?_) (fun e1019 => ?_))
            · skip
              refine pt_d (pt_iinc (c := 1) gx121_77 rfl z3 (fun v1020 h1020 => ?_))
              show Pt _ _ _ _ [some (.ref 33), some (.int x1), some (.ref q2), some (.int v1020), some (.int v1015), some (.int v1013)] [] _ _
              refine pt_d (pt_1 (fun n d => r_goto gx121_80) ?_)
              exact ih121_8 h0 h_1018 x1 q2 v1020 _ _ S1018 G1018 I1018
            · skip
              refine pt_d (pt_iconst gx121_75 (fun v1021 h1021 => ?_))
              exact pt_d (pt_iret gx121_76 ⟨_, rfl, S1018, G1018, I1018⟩)
          · skip
            refine pt_d (pt_iconst gx121_39 (fun v1022 h1022 => ?_))
            refine pt_d (pt_1 (fun n d => r_goto gx121_40) ?_)
            refine pt_d (pt_1 (fun n d => r_istore (L' := [some (.ref 33), some (.int x1), some (.ref q2), some (.int x3), some (.int v1005), some (.int v1022)]) gx121_44 rfl rfl) ?_)
            refine pt_d (pt_1 (fun n d => r_aloadn gx121_46 rfl) ?_)
            refine pt_d (pt_iconst gx121_47 (fun v1023 h1023 => ?_))
            refine pt_d (pt_virt (as := [.int v1023]) (r := []) gx121_48 rfl (show zmt[128]? = some zM128 from rfl) rfl rfl rfl rfl (wk_128 S1008 h1023 I1008) (kqI (fun v1024 y1024 h_1024 h1024 P1024 => ?_)))
            have S1024 := P1024.1
            have G1024 := hk_t G1008 P1024.2.1
            have I1024 := P1024.2.2
            show Pt _ _ _ 51 _ [.int v1024] _ _
            refine pt_d (pt_1 (fun n d => r_istore (L' := [some (.ref 33), some (.int x1), some (.ref q2), some (.int x3), some (.int v1024), some (.int v1022)]) gx121_51 rfl rfl) ?_)
            refine pt_d (pt_1 (fun n d => r_iload gx121_53 rfl) ?_)
            refine pt_d (pt_if_eq gx121_55 h1022 (fun e1025 => absurd e1025 (by decide)) (fun e1025 => ?_))
            refine pt_d (pt_1 (fun n d => r_aloadn gx121_58 rfl) ?_)
            refine pt_d (pt_1 (fun n d => r_iloadn gx121_59 rfl) ?_)
            refine pt_d (pt_putIh (B := 14) gx121_60 S1024 z3 (fun h_1026 S1026 e1026 K1026 => ?_))
            have G1026 := hk_t G1024 K1026
            have I1026 := IV_uf I1024 K1026 e1026 (by decide)
            refine pt_d (pt_1 (fun n d => r_iload gx121_63 rfl) ?_)
            exact pt_d (pt_iret gx121_65 ⟨_, rfl, S1026, G1026, I1026⟩)
theorem wk_121 {n : Nat} {X : aX} {h : aH} {x1 : Int32} {q2 : Nat} {a1 : Int} (S : wS h) (z1 : x1.toInt = a1) (I : IV h) : Pt n X zM121 0 [some (.ref 33), some (.int x1), some (.ref q2), none, none, none] [] h (qI (fun _ h' => wS h' ∧ hk h h' ∧ IV h')) := (wl_121 n).1 h h x1 q2 S (hk_r h) I
theorem wl_11 {X : aX} : ∀ n : Nat, (∀ (h0 h : aH) (x1 : Int32) (x2 : Int32), wS h → hk h0 h → IV h → Pt n X zM11 0 [some (.ref 41), some (.int x1), some (.int x2), none] [] h (qI (fun _ h' => wS h' ∧ hk h0 h' ∧ IV h'))) := by
  intro n
  induction n with
  | zero => refine ?_ <;> (intros; exact pt_z)
  | succ n ih =>
    have ih11_0 := ih
    refine ?_
    · intro h0 h x1 x2 S G I
      obtain ⟨a1, z1⟩ : ∃ a : Int, x1.toInt = a := ⟨_, rfl⟩
      obtain ⟨a2, z2⟩ : ∃ a : Int, x2.toInt = a := ⟨_, rfl⟩
      refine pt_1 (fun n d => r_iloadn gx11_0 rfl) ?_
      refine pt_d (pt_iconst gx11_1 (fun v1001 h1001 => ?_))
      refine pt_d (pt_icmp_eq gx11_2 z2 h1001 (fun e1002 => ?_) (fun e1002 => ?_))
      · skip
        refine pt_d (pt_iconst gx11_20 (fun v1003 h1003 => ?_))
        refine pt_d (pt_1 (fun n d => r_goto gx11_21) ?_)
        refine pt_d (pt_1 (fun n d => r_istoren (L' := [some (.ref 41), some (.int x1), some (.int x2), some (.int v1003)]) gx11_25 rfl rfl) ?_)
        refine pt_d (pt_1 (fun n d => r_iloadn gx11_26 rfl) ?_)
        refine pt_d (pt_if_eq gx11_27 h1003 (fun e1004 => absurd e1004 (by decide)) (fun e1004 => ?_))
        refine pt_d (pt_1 (fun n d => r_iloadn gx11_30 rfl) ?_)
        refine pt_d (pt_i2l gx11_31 z1 (fun v1005 h1005 => ?_))
        refine pt_d (pt_1 (fun n d => r_iloadn gx11_32 rfl) ?_)
        refine pt_d (pt_i2l gx11_33 z1 (fun v1006 h1006 => ?_))
        refine pt_d (pt_ldc2_w (c := 3) gx11_34 rfl (fun v1007 h1007 => ?_))
        refine pt_d (pt_lmul gx11_37 h1006 h1007 (fun v1008 h1008 => ?_))
        refine pt_d (pt_ldc2_w (c := 10) gx11_38 rfl (fun v1009 h1009 => ?_))
        refine pt_d (pt_ldiv gx11_41 h1008 h1009 (fun v1010 h1010 => ?_))
        refine pt_d (pt_ladd gx11_42 h1005 h1010 (fun v1011 h1011 => ?_))
        refine pt_d (pt_stat (as := [.long v1011]) (r := []) gx11_43 rfl (show zmt[9]? = some zM9 from rfl) rfl rfl rfl rfl (wk_9 S h1011 I) (kqI (fun v1012 y1012 h_1012 h1012 P1012 => ?_)))
        have S1012 := P1012.1
        have G1012 := hk_t G P1012.2.1
        have I1012 := P1012.2.2
        show Pt _ _ _ 46 _ [.int v1012] _ _
        refine pt_d (pt_1 (fun n d => r_goto gx11_46) ?_)
        exact pt_d (pt_iret gx11_50 ⟨_, rfl, S1012, G1012, I1012⟩)
      · skip
        refine pt_d (pt_1 (fun n d => r_aloadn gx11_5 rfl) ?_)
        refine pt_d (pt_getR gx11_6 S tr_41_2 ?_)
        refine pt_d (pt_1 (fun n d => r_iloadn gx11_9 rfl) ?_)
        refine pt_d (pt_1 (fun n d => r_aloadn gx11_10 rfl) ?_)
        refine pt_d (pt_getR gx11_11 S tr_41_4 ?_)
        refine pt_d (pt_virt (as := [.int x2, .ref 43]) (r := []) gx11_14 rfl (show zmt[121]? = some zM121 from rfl) rfl rfl rfl rfl (wk_121 S z2 I) (kqI (fun v1015 y1015 h_1015 h1015 P1015 => ?_)))
        have S1015 := P1015.1
        have G1015 := hk_t G P1015.2.1
        have I1015 := P1015.2.2
        show Pt _ _ _ 17 _ [.int v1015] _ _
        refine pt_d (pt_if_eq gx11_17 h1015 (fun e1016 => ?_) (fun e1016 => ?_))
        · skip
          refine pt_d (pt_iconst gx11_24 (fun v1017 h1017 => ?_))
          refine pt_d (pt_1 (fun n d => r_istoren (L' := [some (.ref 41), some (.int x1), some (.int x2), some (.int v1017)]) gx11_25 rfl rfl) ?_)
          refine pt_d (pt_1 (fun n d => r_iloadn gx11_26 rfl) ?_)
          refine pt_d (pt_if_eq gx11_27 h1017 (fun e1018 => ?_) (fun e1018 => absurd e1018 (by decide)))
          refine pt_d (pt_1 (fun n d => r_iloadn gx11_49 rfl) ?_)
          exact pt_d (pt_iret gx11_50 ⟨_, rfl, S1015, G1015, I1015⟩)
        · skip
          refine pt_d (pt_iconst gx11_20 (fun v1019 h1019 => ?_))
          refine pt_d (pt_1 (fun n d => r_goto gx11_21) ?_)
          refine pt_d (pt_1 (fun n d => r_istoren (L' := [some (.ref 41), some (.int x1), some (.int x2), some (.int v1019)]) gx11_25 rfl rfl) ?_)
          refine pt_d (pt_1 (fun n d => r_iloadn gx11_26 rfl) ?_)
          refine pt_d (pt_if_eq gx11_27 h1019 (fun e1020 => absurd e1020 (by decide)) (fun e1020 => ?_))
          refine pt_d (pt_1 (fun n d => r_iloadn gx11_30 rfl) ?_)
          refine pt_d (pt_i2l gx11_31 z1 (fun v1021 h1021 => ?_))
          refine pt_d (pt_1 (fun n d => r_iloadn gx11_32 rfl) ?_)
          refine pt_d (pt_i2l gx11_33 z1 (fun v1022 h1022 => ?_))
          refine pt_d (pt_ldc2_w (c := 3) gx11_34 rfl (fun v1023 h1023 => ?_))
          refine pt_d (pt_lmul gx11_37 h1022 h1023 (fun v1024 h1024 => ?_))
          refine pt_d (pt_ldc2_w (c := 10) gx11_38 rfl (fun v1025 h1025 => ?_))
          refine pt_d (pt_ldiv gx11_41 h1024 h1025 (fun v1026 h1026 => ?_))
          refine pt_d (pt_ladd gx11_42 h1021 h1026 (fun v1027 h1027 => ?_))
          refine pt_d (pt_stat (as := [.long v1027]) (r := []) gx11_43 rfl (show zmt[9]? = some zM9 from rfl) rfl rfl rfl rfl (wk_9 S1015 h1027 I1015) (kqI (fun v1028 y1028 h_1028 h1028 P1028 => ?_)))
          have S1028 := P1028.1
          have G1028 := hk_t G1015 P1028.2.1
          have I1028 := P1028.2.2
          show Pt _ _ _ 46 _ [.int v1028] _ _
          refine pt_d (pt_1 (fun n d => r_goto gx11_46) ?_)
          exact pt_d (pt_iret gx11_50 ⟨_, rfl, S1028, G1028, I1028⟩)
theorem wk_11 {n : Nat} {X : aX} {h : aH} {x1 : Int32} {x2 : Int32} {a1 : Int} {a2 : Int} (S : wS h) (z1 : x1.toInt = a1) (z2 : x2.toInt = a2) (I : IV h) : Pt n X zM11 0 [some (.ref 41), some (.int x1), some (.int x2), none] [] h (qI (fun _ h' => wS h' ∧ hk h h' ∧ IV h')) := (wl_11 n) h h x1 x2 S (hk_r h) I
theorem wl_12 {X : aX} : ∀ n : Nat, (∀ (h0 h : aH) (x1 : Int32) (x2 : Int32), wS h → hk h0 h → IV h → Pt n X zM12 0 [some (.ref 41), some (.int x1), some (.int x2), none] [] h (qI (fun _ h' => wS h' ∧ hk h0 h' ∧ IV h'))) := by
  intro n
  induction n with
  | zero => refine ?_ <;> (intros; exact pt_z)
  | succ n ih =>
    have ih12_0 := ih
    refine ?_
    · intro h0 h x1 x2 S G I
      obtain ⟨a1, z1⟩ : ∃ a : Int, x1.toInt = a := ⟨_, rfl⟩
      obtain ⟨a2, z2⟩ : ∃ a : Int, x2.toInt = a := ⟨_, rfl⟩
      refine pt_1 (fun n d => r_iloadn gx12_0 rfl) ?_
      refine pt_d (pt_iconst gx12_1 (fun v1001 h1001 => ?_))
      refine pt_d (pt_icmp_ne gx12_2 z2 h1001 (fun e1002 => ?_) (fun e1002 => ?_))
      · skip
        refine pt_d (pt_1 (fun n d => r_aloadn gx12_7 rfl) ?_)
        refine pt_d (pt_getR gx12_8 S tr_41_4 ?_)
        refine pt_d (pt_bipush gx12_11 (fun v1004 h1004 => ?_))
        refine pt_d (pt_1 (fun n d => r_iloadn gx12_13 rfl) ?_)
        refine pt_d (pt_iasth (N' := 13) gx12_14 S tl_43 h1004 z1 (fun h_1005 S1005 p1005 q1005 e1005 K1005 => ?_))
        have G1005 := hk_t G K1005
        have I1005 := IV_ua I K1005 e1005 (by decide)
        refine pt_d (pt_1 (fun n d => r_aloadn gx12_15 rfl) ?_)
        refine pt_d (pt_getR gx12_16 S1005 tr_41_2 ?_)
        refine pt_d (pt_1 (fun n d => r_iloadn gx12_19 rfl) ?_)
        refine pt_d (pt_1 (fun n d => r_aloadn gx12_20 rfl) ?_)
        refine pt_d (pt_getR gx12_21 S1005 tr_41_4 ?_)
        refine pt_d (pt_virt (as := [.int x2, .ref 43]) (r := []) gx12_24 rfl (show zmt[121]? = some zM121 from rfl) rfl rfl rfl rfl (wk_121 S1005 z2 I1005) (kqI (fun v1008 y1008 h_1008 h1008 P1008 => ?_)))
        have S1008 := P1008.1
        have G1008 := hk_t G1005 P1008.2.1
        have I1008 := P1008.2.2
        show Pt _ _ _ 27 _ [.int v1008] _ _
        refine pt_d (pt_1 (fun n d => r_istoren (L' := [some (.ref 41), some (.int x1), some (.int x2), some (.int v1008)]) gx12_27 rfl rfl) ?_)
        refine pt_d (pt_1 (fun n d => r_aloadn gx12_28 rfl) ?_)
        refine pt_d (pt_getR gx12_29 S1008 tr_41_4 ?_)
        refine pt_d (pt_bipush gx12_32 (fun v1010 h1010 => ?_))
        refine pt_d (pt_iconst gx12_34 (fun v1011 h1011 => ?_))
        refine pt_d (pt_iasth (N' := 13) gx12_35 S1008 tl_43 h1010 h1011 (fun h_1012 S1012 p1012 q1012 e1012 K1012 => ?_))
        have G1012 := hk_t G1008 K1012
        have I1012 := IV_ua I1008 K1012 e1012 (by decide)
        refine pt_d (pt_iconst gx12_36 (fun v1013 h1013 => ?_))
        refine pt_d (pt_1 (fun n d => r_iloadn gx12_37 rfl) ?_)
        refine pt_d (pt_1 (fun n d => r_iloadn gx12_38 rfl) ?_)
        refine pt_d (pt_min gx12_39 rfl z1 h1008 (fun v1014 h1014 => ?_))
        refine pt_d (pt_max gx12_42 rfl h1013 h1014 (fun v1015 h1015 => ?_))
        exact pt_d (pt_iret gx12_45 ⟨_, rfl, S1012, G1012, I1012⟩)
      · skip
        refine pt_d (pt_1 (fun n d => r_iloadn gx12_5 rfl) ?_)
        exact pt_d (pt_iret gx12_6 ⟨_, rfl, S, G, I⟩)
theorem wk_12 {n : Nat} {X : aX} {h : aH} {x1 : Int32} {x2 : Int32} {a1 : Int} {a2 : Int} (S : wS h) (z1 : x1.toInt = a1) (z2 : x2.toInt = a2) (I : IV h) : Pt n X zM12 0 [some (.ref 41), some (.int x1), some (.int x2), none] [] h (qI (fun _ h' => wS h' ∧ hk h h' ∧ IV h')) := (wl_12 n) h h x1 x2 S (hk_r h) I
theorem wl_13 {X : aX} : ∀ n : Nat, (∀ (h0 h : aH) (x1 : Int32) (x2 : Int32), wS h → hk h0 h → IV h → Pt n X zM13 0 [some (.ref 41), some (.int x1), some (.int x2), none] [] h (qI (fun _ h' => wS h' ∧ hk h0 h' ∧ IV h'))) := by
  intro n
  induction n with
  | zero => refine ?_ <;> (intros; exact pt_z)
  | succ n ih =>
    have ih13_0 := ih
    refine ?_
    · intro h0 h x1 x2 S G I
      obtain ⟨a1, z1⟩ : ∃ a : Int, x1.toInt = a := ⟨_, rfl⟩
      obtain ⟨a2, z2⟩ : ∃ a : Int, x2.toInt = a := ⟨_, rfl⟩
      refine pt_1 (fun n d => r_aloadn gx13_0 rfl) ?_
      refine pt_d (pt_iconst gx13_1 (fun v1001 h1001 => ?_))
      refine pt_d (pt_putIh (B := 7) gx13_2 S h1001 (fun h_1002 S1002 e1002 K1002 => ?_))
      have G1002 := hk_t G K1002
      have I1002 := IV_uf I K1002 e1002 (by decide)
      refine pt_d (pt_1 (fun n d => r_iloadn gx13_5 rfl) ?_)
      refine pt_d (pt_iconst gx13_6 (fun v1003 h1003 => ?_))
      refine pt_d (pt_icmp_ne gx13_7 z2 h1003 (fun e1004 => ?_) (fun e1004 => ?_))
      · skip
        refine pt_d (pt_iconst gx13_12 (fun v1005 h1005 => ?_))
        refine pt_d (pt_bipush gx13_13 (fun v1006 h1006 => ?_))
        refine pt_d (pt_1 (fun n d => r_aloadn gx13_15 rfl) ?_)
        refine pt_d (pt_getR gx13_16 S1002 tr_41_2 ?_)
        refine pt_d (pt_1 (fun n d => r_iloadn gx13_19 rfl) ?_)
        refine pt_d (pt_1 (fun n d => r_aloadn gx13_20 rfl) ?_)
        refine pt_d (pt_getR gx13_21 S1002 tr_41_4 ?_)
        refine pt_d (pt_virt (as := [.int x2, .ref 43]) (r := [.int v1006, .int v1005]) gx13_24 rfl (show zmt[121]? = some zM121 from rfl) rfl rfl rfl rfl (wk_121 S1002 z2 I1002) (kqI (fun v1009 y1009 h_1009 h1009 P1009 => ?_)))
        have S1009 := P1009.1
        have G1009 := hk_t G1002 P1009.2.1
        have I1009 := P1009.2.2
        show Pt _ _ _ 27 _ [.int v1009, .int v1006, .int v1005] _ _
        refine pt_d (pt_min gx13_27 rfl h1006 h1009 (fun v1010 h1010 => ?_))
        refine pt_d (pt_max gx13_30 rfl h1005 h1010 (fun v1011 h1011 => ?_))
        refine pt_d (pt_1 (fun n d => r_istoren (L' := [some (.ref 41), some (.int x1), some (.int x2), some (.int v1011)]) gx13_33 rfl rfl) ?_)
        refine pt_d (pt_1 (fun n d => r_aloadn gx13_34 rfl) ?_)
        refine pt_d (pt_1 (fun n d => r_aloadn gx13_35 rfl) ?_)
        refine pt_d (pt_getR gx13_36 S1009 tr_41_2 ?_)
        refine pt_d (pt_getI (B := 14) gx13_39 S1009 (fun v1013 h1013 => ?_))
        refine pt_d (pt_putIh (B := 7) gx13_42 S1009 h1013 (fun h_1014 S1014 e1014 K1014 => ?_))
        have G1014 := hk_t G1009 K1014
        have I1014 := IV_uf I1009 K1014 e1014 (by decide)
        refine pt_d (pt_1 (fun n d => r_aloadn gx13_45 rfl) ?_)
        refine pt_d (pt_getR gx13_46 S1014 tr_41_4 ?_)
        refine pt_d (pt_bipush gx13_49 (fun v1016 h1016 => ?_))
        refine pt_d (pt_iald (N' := 13) gx13_51 S1014 tl_43 h1016 (fun v1017 p1017 q1017 h1017 => ?_))
        have h1017 : v1017.toInt = vw h_1009 43 11 := by rw [h1017, e1014, up_c (by decide)]
        refine pt_d (pt_iconst gx13_52 (fun v1018 h1018 => ?_))
        refine pt_d (pt_icmp_ne gx13_53 h1017 h1018 (fun e1019 => ?_) (fun e1019 => ?_))
        · skip
          refine pt_d (pt_1 (fun n d => r_iloadn gx13_58 rfl) ?_)
          refine pt_d (pt_1 (fun n d => r_iloadn gx13_59 rfl) ?_)
          refine pt_d (pt_i2l gx13_60 z1 (fun v1020 h1020 => ?_))
          refine pt_d (pt_1 (fun n d => r_iloadn gx13_61 rfl) ?_)
          refine pt_d (pt_i2l gx13_62 h1011 (fun v1021 h1021 => ?_))
          refine pt_d (pt_lmul gx13_63 h1020 h1021 (fun v1022 h1022 => ?_))
          refine pt_d (pt_ldc2_w (c := 99) gx13_64 rfl (fun v1023 h1023 => ?_))
          refine pt_d (pt_ladd gx13_67 h1022 h1023 (fun v1024 h1024 => ?_))
          refine pt_d (pt_ldc2_w (c := 100) gx13_68 rfl (fun v1025 h1025 => ?_))
          refine pt_d (pt_ldiv gx13_71 h1024 h1025 (fun v1026 h1026 => ?_))
          refine pt_d (pt_l2i gx13_72 h1026 (fun v1027 h1027 => ?_))
          refine pt_d (pt_isub gx13_73 z1 h1027 (fun v1028 h1028 => ?_))
          exact pt_d (pt_iret gx13_74 ⟨_, rfl, S1014, G1014, I1014⟩)
        · skip
          refine pt_d (pt_1 (fun n d => r_iloadn gx13_56 rfl) ?_)
          exact pt_d (pt_iret gx13_57 ⟨_, rfl, S1014, G1014, I1014⟩)
      · skip
        refine pt_d (pt_1 (fun n d => r_iloadn gx13_10 rfl) ?_)
        exact pt_d (pt_iret gx13_11 ⟨_, rfl, S1002, G1002, I1002⟩)
theorem wk_13 {n : Nat} {X : aX} {h : aH} {x1 : Int32} {x2 : Int32} {a1 : Int} {a2 : Int} (S : wS h) (z1 : x1.toInt = a1) (z2 : x2.toInt = a2) (I : IV h) : Pt n X zM13 0 [some (.ref 41), some (.int x1), some (.int x2), none] [] h (qI (fun _ h' => wS h' ∧ hk h h' ∧ IV h')) := (wl_13 n) h h x1 x2 S (hk_r h) I
theorem wl_120 {X : aX} : ∀ n : Nat, (∀ (h0 h : aH) (x1 : Int32) (x2 : Int32) (x3 : Int32), wS h → hk h0 h → IV h → Pt n X zM120 0 [some (.ref 33), some (.int x1), some (.int x2), some (.int x3), none] [] h (qI (fun _ h' => wS h' ∧ hk h0 h' ∧ IV h'))) ∧
    (∀ (h0 h : aH) (x1 : Int32) (x2 : Int32) (x3 : Int32) (x4 : Int32), wS h → hk h0 h → IV h → Pt n X zM120 8 [some (.ref 33), some (.int x1), some (.int x2), some (.int x3), some (.int x4)] [] h (qI (fun _ h' => wS h' ∧ hk h0 h' ∧ IV h'))) := by
  intro n
  induction n with
  | zero => refine ⟨?_, ?_⟩ <;> (intros; exact pt_z)
  | succ n ih =>
    obtain ⟨ih120_0, ih120_8⟩ := ih
    refine ⟨?_, ?_⟩
    · intro h0 h x1 x2 x3 S G I
      obtain ⟨a1, z1⟩ : ∃ a : Int, x1.toInt = a := ⟨_, rfl⟩
      obtain ⟨a2, z2⟩ : ∃ a : Int, x2.toInt = a := ⟨_, rfl⟩
      obtain ⟨a3, z3⟩ : ∃ a : Int, x3.toInt = a := ⟨_, rfl⟩
      refine pt_1 (fun n d => r_aloadn gx120_0 rfl) ?_
      refine pt_d (pt_getI (B := 7) gx120_1 S (fun v1001 h1001 => ?_))
      refine pt_d (pt_iconst gx120_4 (fun v1002 h1002 => ?_))
      refine pt_d (pt_isub gx120_5 h1001 h1002 (fun v1003 h1003 => ?_))
      refine pt_d (pt_1 (fun n d => r_istore (L' := [some (.ref 33), some (.int x1), some (.int x2), some (.int x3), some (.int v1003)]) gx120_6 rfl rfl) ?_)
      exact ih120_8 h0 h x1 x2 x3 v1003 S G I
    · intro h0 h x1 x2 x3 x4 S G I
      obtain ⟨a1, z1⟩ : ∃ a : Int, x1.toInt = a := ⟨_, rfl⟩
      obtain ⟨a2, z2⟩ : ∃ a : Int, x2.toInt = a := ⟨_, rfl⟩
      obtain ⟨a3, z3⟩ : ∃ a : Int, x3.toInt = a := ⟨_, rfl⟩
      obtain ⟨a4, z4⟩ : ∃ a : Int, x4.toInt = a := ⟨_, rfl⟩
      refine pt_1 (fun n d => r_iload gx120_8 rfl) ?_
      refine pt_d (pt_if_lt gx120_10 z4 (fun e1001 => ?_) (fun e1001 => ?_))
      · skip
        refine pt_d (pt_iconst gx120_55 (fun v1002 h1002 => ?_))
        exact pt_d (pt_iret gx120_56 ⟨_, rfl, S, G, I⟩)
      · skip
        refine pt_d (pt_1 (fun n d => r_aloadn gx120_13 rfl) ?_)
        refine pt_d (pt_getR gx120_14 S tr_33_4 ?_)
        refine pt_d (pt_1 (fun n d => r_iload gx120_17 rfl) ?_)
        refine pt_d (pt_iald (N' := 16) gx120_19 S tl_37 z4 (fun v1004 p1004 q1004 h1004 => ?_))
        refine pt_d (pt_1 (fun n d => r_iloadn gx120_20 rfl) ?_)
        refine pt_d (pt_icmp_ne gx120_21 h1004 z1 (fun e1005 => ?_) (fun e1005 => ?_))
        · skip
          refine pt_d (pt_iinc (c := (-1)) gx120_49 rfl z4 (fun v1006 h1006 => ?_))
          show Pt _ _ _ _ [some (.ref 33), some (.int x1), some (.int x2), some (.int x3), some (.int v1006)] [] _ _
          refine pt_d (pt_1 (fun n d => r_goto gx120_52) ?_)
          exact ih120_8 h0 h x1 x2 x3 v1006 S G I
        · skip
          refine pt_d (pt_1 (fun n d => r_aloadn gx120_24 rfl) ?_)
          refine pt_d (pt_getR gx120_25 S tr_33_5 ?_)
          refine pt_d (pt_1 (fun n d => r_iload gx120_28 rfl) ?_)
          refine pt_d (pt_iald (N' := 16) gx120_30 S tl_38 z4 (fun v1008 p1008 q1008 h1008 => ?_))
          refine pt_d (pt_1 (fun n d => r_iloadn gx120_31 rfl) ?_)
          refine pt_d (pt_icmp_gt gx120_32 h1008 z2 (fun e1009 => ?_) (fun e1009 => ?_))
          · skip
            refine pt_d (pt_iinc (c := (-1)) gx120_49 rfl z4 (fun v1010 h1010 => ?_))
            show Pt _ _ _ _ [some (.ref 33), some (.int x1), some (.int x2), some (.int x3), some (.int v1010)] [] _ _
            refine pt_d (pt_1 (fun n d => r_goto gx120_52) ?_)
            exact ih120_8 h0 h x1 x2 x3 v1010 S G I
          · skip
            refine pt_d (pt_1 (fun n d => r_aloadn gx120_35 rfl) ?_)
            refine pt_d (pt_getR gx120_36 S tr_33_6 ?_)
            refine pt_d (pt_1 (fun n d => r_iload gx120_39 rfl) ?_)
            refine pt_d (pt_iald (N' := 16) gx120_41 S tl_39 z4 (fun v1012 p1012 q1012 h1012 => ?_))
            refine pt_d (pt_1 (fun n d => r_iloadn gx120_42 rfl) ?_)
            refine pt_d (pt_icmp_gt gx120_43 h1012 z3 (fun e1013 => ?_) (fun e1013 => ?_))
            · skip
              refine pt_d (pt_iinc (c := (-1)) gx120_49 rfl z4 (fun v1014 h1014 => ?_))
              show Pt _ _ _ _ [some (.ref 33), some (.int x1), some (.int x2), some (.int x3), some (.int v1014)] [] _ _
              refine pt_d (pt_1 (fun n d => r_goto gx120_52) ?_)
              exact ih120_8 h0 h x1 x2 x3 v1014 S G I
            · skip
              refine pt_d (pt_1 (fun n d => r_iload gx120_46 rfl) ?_)
              exact pt_d (pt_iret gx120_48 ⟨_, rfl, S, G, I⟩)
theorem wk_120 {n : Nat} {X : aX} {h : aH} {x1 : Int32} {x2 : Int32} {x3 : Int32} {a1 : Int} {a2 : Int} {a3 : Int} (S : wS h) (z1 : x1.toInt = a1) (z2 : x2.toInt = a2) (z3 : x3.toInt = a3) (I : IV h) : Pt n X zM120 0 [some (.ref 33), some (.int x1), some (.int x2), some (.int x3), none] [] h (qI (fun _ h' => wS h' ∧ hk h h' ∧ IV h')) := (wl_120 n).1 h h x1 x2 x3 S (hk_r h) I
theorem wl_8 {X : aX} : ∀ n : Nat, (∀ (h0 h : aH) (x1 : Int32) (x2 : Int32) (x3 : Int32) (x4 : Int32), wS h → hk h0 h → IV h → Pt n X zM8 0 [some (.ref 41), some (.int x1), some (.int x2), some (.int x3), some (.int x4), none, none, none, none, none] [] h (qI (fun _ h' => wS h' ∧ hk h0 h' ∧ IV h'))) ∧
    (∀ (h0 h : aH) (x1 : Int32) (x2 : Int32) (x3 : Int32) (x4 : Int32) (x5 : Int32) (xs0 : Int32), wS h → hk h0 h → IV h → Pt n X zM8 45 [some (.ref 41), some (.int x1), some (.int x2), some (.int x3), some (.int x4), some (.int x5), none, none, none, none] [.int xs0] h (qI (fun _ h' => wS h' ∧ hk h0 h' ∧ IV h'))) ∧
    (∀ (h0 h : aH) (x1 : Int32) (x2 : Int32) (x3 : Int32) (x4 : Int32) (x5 : Int32) (x6 : Int32) (x7 : Int32) (xs0 : Int64), wS h → hk h0 h → IV h → Pt n X zM8 92 [some (.ref 41), some (.int x1), some (.int x2), some (.int x3), some (.int x4), some (.int x5), some (.int x6), some (.int x7), none, none] [.long xs0] h (qI (fun _ h' => wS h' ∧ hk h0 h' ∧ IV h'))) := by
  intro n
  induction n with
  | zero => refine ⟨?_, ?_, ?_⟩ <;> (intros; exact pt_z)
  | succ n ih =>
    obtain ⟨ih8_0, ih8_45, ih8_92⟩ := ih
    refine ⟨?_, ?_, ?_⟩
    · intro h0 h x1 x2 x3 x4 S G I
      obtain ⟨a1, z1⟩ : ∃ a : Int, x1.toInt = a := ⟨_, rfl⟩
      obtain ⟨a2, z2⟩ : ∃ a : Int, x2.toInt = a := ⟨_, rfl⟩
      obtain ⟨a3, z3⟩ : ∃ a : Int, x3.toInt = a := ⟨_, rfl⟩
      obtain ⟨a4, z4⟩ : ∃ a : Int, x4.toInt = a := ⟨_, rfl⟩
      refine pt_1 (fun n d => r_aloadn gx8_0 rfl) ?_
      refine pt_d (pt_1 (fun n d => r_iloadn gx8_1 rfl) ?_)
      refine pt_d (pt_1 (fun n d => r_iloadn gx8_2 rfl) ?_)
      refine pt_d (pt_1 (fun n d => r_iloadn gx8_3 rfl) ?_)
      refine pt_d (pt_virt (as := [.int x1, .int x2, .int x3]) (r := []) gx8_4 rfl (show zmt[2]? = some zM2 from rfl) rfl rfl rfl rfl (wk_2 S z1 z2 z3 I) (kqN (fun h_1001 P1001 => ?_)))
      have S1001 := P1001.1
      have G1001 := hk_t G P1001.2.1
      have I1001 := P1001.2.2
      show Pt _ _ _ 7 _ [] _ _
      refine pt_d (pt_1 (fun n d => r_aloadn gx8_7 rfl) ?_)
      refine pt_d (pt_getR gx8_8 S1001 tr_41_0 ?_)
      refine pt_d (pt_getR gx8_11 S1001 tr_1_8 ?_)
      refine pt_d (pt_1 (fun n d => r_iloadn gx8_14 rfl) ?_)
      refine pt_d (pt_iald (N' := 150) gx8_15 S1001 tl_3 z1 (fun v1004 p1004 q1004 h1004 => ?_))
      refine pt_d (pt_bipush gx8_16 (fun v1005 h1005 => ?_))
      refine pt_d (pt_imul gx8_18 h1004 h1005 (fun v1006 h1006 => ?_))
      refine pt_d (pt_1 (fun n d => r_istore (L' := [some (.ref 41), some (.int x1), some (.int x2), some (.int x3), some (.int x4), some (.int v1006), none, none, none, none]) gx8_19 rfl rfl) ?_)
      refine pt_d (pt_1 (fun n d => r_iload gx8_21 rfl) ?_)
      refine pt_d (pt_iconst gx8_23 (fun v1007 h1007 => ?_))
      refine pt_d (pt_icmp_ne gx8_24 z4 h1007 (fun e1008 => ?_) (fun e1008 => ?_))
      · skip
        refine pt_d (pt_1 (fun n d => r_iload gx8_43 rfl) ?_)
        exact ih8_45 h0 h_1001 x1 x2 x3 x4 v1006 x4 S1001 G1001 I1001
      · skip
        refine pt_d (pt_1 (fun n d => r_aloadn gx8_27 rfl) ?_)
        refine pt_d (pt_getR gx8_28 S1001 tr_41_2 ?_)
        refine pt_d (pt_1 (fun n d => r_iload gx8_31 rfl) ?_)
        refine pt_d (pt_iconst gx8_33 (fun v1010 h1010 => ?_))
        refine pt_d (pt_iadd gx8_34 h1006 h1010 (fun v1011 h1011 => ?_))
        refine pt_d (pt_1 (fun n d => r_iloadn gx8_35 rfl) ?_)
        refine pt_d (pt_1 (fun n d => r_iloadn gx8_36 rfl) ?_)
        refine pt_d (pt_virt (as := [.int v1011, .int x2, .int x3]) (r := []) gx8_37 rfl (show zmt[120]? = some zM120 from rfl) rfl rfl rfl rfl (wk_120 S1001 h1011 z2 z3 I1001) (kqI (fun v1012 y1012 h_1012 h1012 P1012 => ?_)))
        have S1012 := P1012.1
        have G1012 := hk_t G1001 P1012.2.1
        have I1012 := P1012.2.2
        show Pt _ _ _ 40 _ [.int v1012] _ _
        refine pt_d (pt_1 (fun n d => r_goto gx8_40) ?_)
        exact ih8_45 h0 h_1012 x1 x2 x3 x4 v1006 v1012 S1012 G1012 I1012
    · intro h0 h x1 x2 x3 x4 x5 xs0 S G I
      obtain ⟨a1, z1⟩ : ∃ a : Int, x1.toInt = a := ⟨_, rfl⟩
      obtain ⟨a2, z2⟩ : ∃ a : Int, x2.toInt = a := ⟨_, rfl⟩
      obtain ⟨a3, z3⟩ : ∃ a : Int, x3.toInt = a := ⟨_, rfl⟩
      obtain ⟨a4, z4⟩ : ∃ a : Int, x4.toInt = a := ⟨_, rfl⟩
      obtain ⟨a5, z5⟩ : ∃ a : Int, x5.toInt = a := ⟨_, rfl⟩
      obtain ⟨as0, zs0⟩ : ∃ a : Int, xs0.toInt = a := ⟨_, rfl⟩
      refine pt_1 (fun n d => r_istore (L' := [some (.ref 41), some (.int x1), some (.int x2), some (.int x3), some (.int x4), some (.int x5), some (.int xs0), none, none, none]) gx8_45 rfl rfl) ?_
      refine pt_d (pt_1 (fun n d => r_aloadn gx8_47 rfl) ?_)
      refine pt_d (pt_getR gx8_48 S tr_41_4 ?_)
      refine pt_d (pt_iconst gx8_51 (fun v1002 h1002 => ?_))
      refine pt_d (pt_iald (N' := 13) gx8_52 S tl_43 h1002 (fun v1003 p1003 q1003 h1003 => ?_))
      refine pt_d (pt_bipush gx8_53 (fun v1004 h1004 => ?_))
      refine pt_d (pt_1 (fun n d => r_aloadn gx8_55 rfl) ?_)
      refine pt_d (pt_getR gx8_56 S tr_41_4 ?_)
      refine pt_d (pt_bipush gx8_59 (fun v1006 h1006 => ?_))
      refine pt_d (pt_iald (N' := 13) gx8_61 S tl_43 h1006 (fun v1007 p1007 q1007 h1007 => ?_))
      refine pt_d (pt_imul gx8_62 h1004 h1007 (fun v1008 h1008 => ?_))
      refine pt_d (pt_min gx8_63 rfl h1003 h1008 (fun v1009 h1009 => ?_))
      refine pt_d (pt_1 (fun n d => r_istore (L' := [some (.ref 41), some (.int x1), some (.int x2), some (.int x3), some (.int x4), some (.int x5), some (.int xs0), some (.int v1009), none, none]) gx8_66 rfl rfl) ?_)
      refine pt_d (pt_1 (fun n d => r_iload gx8_68 rfl) ?_)
      refine pt_d (pt_iconst gx8_70 (fun v1010 h1010 => ?_))
      refine pt_d (pt_icmp_ne gx8_71 zs0 h1010 (fun e1011 => ?_) (fun e1011 => ?_))
      · skip
        refine pt_d (pt_1 (fun n d => r_aloadn gx8_78 rfl) ?_)
        refine pt_d (pt_getR gx8_79 S tr_41_2 ?_)
        refine pt_d (pt_1 (fun n d => r_iload gx8_82 rfl) ?_)
        refine pt_d (pt_1 (fun n d => r_aloadn gx8_84 rfl) ?_)
        refine pt_d (pt_getR gx8_85 S tr_41_4 ?_)
        refine pt_d (pt_virt (as := [.int xs0, .ref 43]) (r := []) gx8_88 rfl (show zmt[121]? = some zM121 from rfl) rfl rfl rfl rfl (wk_121 S zs0 I) (kqI (fun v1014 y1014 h_1014 h1014 P1014 => ?_)))
        have S1014 := P1014.1
        have G1014 := hk_t G P1014.2.1
        have I1014 := P1014.2.2
        show Pt _ _ _ 91 _ [.int v1014] _ _
        refine pt_d (pt_i2l gx8_91 h1014 (fun v1015 h1015 => ?_))
        exact ih8_92 h0 h_1014 x1 x2 x3 x4 x5 xs0 v1009 v1015 S1014 G1014 I1014
      · skip
        refine pt_d (pt_lconst (c := 1) gx8_74 rfl (fun v1016 h1016 => ?_))
        refine pt_d (pt_1 (fun n d => r_goto gx8_75) ?_)
        exact ih8_92 h0 h x1 x2 x3 x4 x5 xs0 v1009 v1016 S G I
    · intro h0 h x1 x2 x3 x4 x5 x6 x7 xs0 S G I
      obtain ⟨a1, z1⟩ : ∃ a : Int, x1.toInt = a := ⟨_, rfl⟩
      obtain ⟨a2, z2⟩ : ∃ a : Int, x2.toInt = a := ⟨_, rfl⟩
      obtain ⟨a3, z3⟩ : ∃ a : Int, x3.toInt = a := ⟨_, rfl⟩
      obtain ⟨a4, z4⟩ : ∃ a : Int, x4.toInt = a := ⟨_, rfl⟩
      obtain ⟨a5, z5⟩ : ∃ a : Int, x5.toInt = a := ⟨_, rfl⟩
      obtain ⟨a6, z6⟩ : ∃ a : Int, x6.toInt = a := ⟨_, rfl⟩
      obtain ⟨a7, z7⟩ : ∃ a : Int, x7.toInt = a := ⟨_, rfl⟩
      obtain ⟨as0, zs0⟩ : ∃ a : Int, xs0.toInt = a := ⟨_, rfl⟩
      refine pt_1 (fun n d => r_lstore (L' := [some (.ref 41), some (.int x1), some (.int x2), some (.int x3), some (.int x4), some (.int x5), some (.int x6), some (.int x7), some (.long xs0), none]) gx8_92 rfl rfl) ?_
      refine pt_d (pt_1 (fun n d => r_aloadn gx8_94 rfl) ?_)
      refine pt_d (pt_getR gx8_95 S tr_41_6 ?_)
      refine pt_d (pt_iconst gx8_98 (fun v1002 h1002 => ?_))
      refine pt_d (pt_1 (fun n d => r_lload gx8_99 rfl) ?_)
      refine pt_d (pt_1 (fun n d => r_iload gx8_101 rfl) ?_)
      refine pt_d (pt_i2l gx8_103 z7 (fun v1003 h1003 => ?_))
      refine pt_d (pt_lmul gx8_104 zs0 h1003 (fun v1004 h1004 => ?_))
      refine pt_d (pt_1 (fun n d => r_aloadn gx8_105 rfl) ?_)
      refine pt_d (pt_1 (fun n d => r_iload gx8_106 rfl) ?_)
      refine pt_d (pt_1 (fun n d => r_iloadn gx8_108 rfl) ?_)
      refine pt_d (pt_1 (fun n d => r_iloadn gx8_109 rfl) ?_)
      refine pt_d (pt_1 (fun n d => r_iloadn gx8_110 rfl) ?_)
      refine pt_d (pt_virt (as := [.int x7, .int x1, .int x2, .int x3]) (r := [.long v1004, .int v1002, .ref 45]) gx8_111 rfl (show zmt[10]? = some zM10 from rfl) rfl rfl rfl rfl (wk_10 S z7 z1 z2 z3 I) (kqJ (fun v1005 y1005 h_1005 h1005 P1005 => ?_)))
      have S1005 := P1005.1
      have G1005 := hk_t G P1005.2.1
      have I1005 := P1005.2.2
      show Pt _ _ _ 114 _ [.long v1005, .long v1004, .int v1002, .ref 45] _ _
      refine pt_d (pt_ladd gx8_114 h1004 h1005 (fun v1006 h1006 => ?_))
      refine pt_d (pt_stat (as := [.long v1006]) (r := [.int v1002, .ref 45]) gx8_115 rfl (show zmt[9]? = some zM9 from rfl) rfl rfl rfl rfl (wk_9 S1005 h1006 I1005) (kqI (fun v1007 y1007 h_1007 h1007 P1007 => ?_)))
      have S1007 := P1007.1
      have G1007 := hk_t G1005 P1007.2.1
      have I1007 := P1007.2.2
      show Pt _ _ _ 118 _ [.int v1007, .int v1002, .ref 45] _ _
      refine pt_d (pt_iasth (N' := 6) gx8_118 S1007 tl_45 h1002 h1007 (fun h_1008 S1008 p1008 q1008 e1008 K1008 => ?_))
      have G1008 := hk_t G1007 K1008
      have I1008 := IV_ua I1007 K1008 e1008 (by decide)
      refine pt_d (pt_1 (fun n d => r_aloadn gx8_119 rfl) ?_)
      refine pt_d (pt_getR gx8_120 S1008 tr_41_6 ?_)
      refine pt_d (pt_iconst gx8_123 (fun v1010 h1010 => ?_))
      refine pt_d (pt_1 (fun n d => r_aloadn gx8_124 rfl) ?_)
      refine pt_d (pt_1 (fun n d => r_aloadn gx8_125 rfl) ?_)
      refine pt_d (pt_getR gx8_126 S1008 tr_41_6 ?_)
      refine pt_d (pt_iconst gx8_129 (fun v1012 h1012 => ?_))
      refine pt_d (pt_iald (N' := 6) gx8_130 S1008 tl_45 h1012 (fun v1013 p1013 q1013 h1013 => ?_))
      have h1013 : v1013.toInt = y1007 := by rw [h1013, e1008, up_s]
      refine pt_d (pt_1 (fun n d => r_aloadn gx8_131 rfl) ?_)
      refine pt_d (pt_getR gx8_132 S1008 tr_41_2 ?_)
      refine pt_d (pt_1 (fun n d => r_iload gx8_135 rfl) ?_)
      refine pt_d (pt_iconst gx8_137 (fun v1015 h1015 => ?_))
      refine pt_d (pt_iadd gx8_138 z5 h1015 (fun v1016 h1016 => ?_))
      refine pt_d (pt_1 (fun n d => r_iloadn gx8_139 rfl) ?_)
      refine pt_d (pt_1 (fun n d => r_iloadn gx8_140 rfl) ?_)
      refine pt_d (pt_virt (as := [.int v1016, .int x2, .int x3]) (r := [.int v1013, .ref 41, .int v1010, .ref 45]) gx8_141 rfl (show zmt[120]? = some zM120 from rfl) rfl rfl rfl rfl (wk_120 S1008 h1016 z2 z3 I1008) (kqI (fun v1017 y1017 h_1017 h1017 P1017 => ?_)))
      have S1017 := P1017.1
      have G1017 := hk_t G1008 P1017.2.1
      have I1017 := P1017.2.2
      show Pt _ _ _ 144 _ [.int v1017, .int v1013, .ref 41, .int v1010, .ref 45] _ _
      refine pt_d (pt_virt (as := [.int v1013, .int v1017]) (r := [.int v1010, .ref 45]) gx8_144 rfl (show zmt[11]? = some zM11 from rfl) rfl rfl rfl rfl (wk_11 S1017 h1013 h1017 I1017) (kqI (fun v1018 y1018 h_1018 h1018 P1018 => ?_)))
      have S1018 := P1018.1
      have G1018 := hk_t G1017 P1018.2.1
      have I1018 := P1018.2.2
      show Pt _ _ _ 147 _ [.int v1018, .int v1010, .ref 45] _ _
      refine pt_d (pt_iasth (N' := 6) gx8_147 S1018 tl_45 h1010 h1018 (fun h_1019 S1019 p1019 q1019 e1019 K1019 => ?_))
      have G1019 := hk_t G1018 K1019
      have I1019 := IV_ua I1018 K1019 e1019 (by decide)
      refine pt_d (pt_1 (fun n d => r_aloadn gx8_148 rfl) ?_)
      refine pt_d (pt_getR gx8_149 S1019 tr_41_6 ?_)
      refine pt_d (pt_iconst gx8_152 (fun v1021 h1021 => ?_))
      refine pt_d (pt_1 (fun n d => r_aloadn gx8_153 rfl) ?_)
      refine pt_d (pt_1 (fun n d => r_aloadn gx8_154 rfl) ?_)
      refine pt_d (pt_getR gx8_155 S1019 tr_41_6 ?_)
      refine pt_d (pt_iconst gx8_158 (fun v1023 h1023 => ?_))
      refine pt_d (pt_iald (N' := 6) gx8_159 S1019 tl_45 h1023 (fun v1024 p1024 q1024 h1024 => ?_))
      have h1024 : v1024.toInt = y1018 := by rw [h1024, e1019, up_s]
      refine pt_d (pt_1 (fun n d => r_aloadn gx8_160 rfl) ?_)
      refine pt_d (pt_getR gx8_161 S1019 tr_41_2 ?_)
      refine pt_d (pt_1 (fun n d => r_iload gx8_164 rfl) ?_)
      refine pt_d (pt_iconst gx8_166 (fun v1026 h1026 => ?_))
      refine pt_d (pt_iadd gx8_167 z5 h1026 (fun v1027 h1027 => ?_))
      refine pt_d (pt_1 (fun n d => r_iloadn gx8_168 rfl) ?_)
      refine pt_d (pt_1 (fun n d => r_iloadn gx8_169 rfl) ?_)
      refine pt_d (pt_virt (as := [.int v1027, .int x2, .int x3]) (r := [.int v1024, .ref 41, .int v1021, .ref 45]) gx8_170 rfl (show zmt[120]? = some zM120 from rfl) rfl rfl rfl rfl (wk_120 S1019 h1027 z2 z3 I1019) (kqI (fun v1028 y1028 h_1028 h1028 P1028 => ?_)))
      have S1028 := P1028.1
      have G1028 := hk_t G1019 P1028.2.1
      have I1028 := P1028.2.2
      show Pt _ _ _ 173 _ [.int v1028, .int v1024, .ref 41, .int v1021, .ref 45] _ _
      refine pt_d (pt_virt (as := [.int v1024, .int v1028]) (r := [.int v1021, .ref 45]) gx8_173 rfl (show zmt[12]? = some zM12 from rfl) rfl rfl rfl rfl (wk_12 S1028 h1024 h1028 I1028) (kqI (fun v1029 y1029 h_1029 h1029 P1029 => ?_)))
      have S1029 := P1029.1
      have G1029 := hk_t G1028 P1029.2.1
      have I1029 := P1029.2.2
      show Pt _ _ _ 176 _ [.int v1029, .int v1021, .ref 45] _ _
      refine pt_d (pt_iasth (N' := 6) gx8_176 S1029 tl_45 h1021 h1029 (fun h_1030 S1030 p1030 q1030 e1030 K1030 => ?_))
      have G1030 := hk_t G1029 K1030
      have I1030 := IV_ua I1029 K1030 e1030 (by decide)
      refine pt_d (pt_1 (fun n d => r_aloadn gx8_177 rfl) ?_)
      refine pt_d (pt_getR gx8_178 S1030 tr_41_6 ?_)
      refine pt_d (pt_iconst gx8_181 (fun v1032 h1032 => ?_))
      refine pt_d (pt_1 (fun n d => r_aloadn gx8_182 rfl) ?_)
      refine pt_d (pt_1 (fun n d => r_aloadn gx8_183 rfl) ?_)
      refine pt_d (pt_getR gx8_184 S1030 tr_41_6 ?_)
      refine pt_d (pt_iconst gx8_187 (fun v1034 h1034 => ?_))
      refine pt_d (pt_iald (N' := 6) gx8_188 S1030 tl_45 h1034 (fun v1035 p1035 q1035 h1035 => ?_))
      have h1035 : v1035.toInt = y1029 := by rw [h1035, e1030, up_s]
      refine pt_d (pt_1 (fun n d => r_aloadn gx8_189 rfl) ?_)
      refine pt_d (pt_getR gx8_190 S1030 tr_41_2 ?_)
      refine pt_d (pt_1 (fun n d => r_iload gx8_193 rfl) ?_)
      refine pt_d (pt_iconst gx8_195 (fun v1037 h1037 => ?_))
      refine pt_d (pt_iadd gx8_196 z5 h1037 (fun v1038 h1038 => ?_))
      refine pt_d (pt_1 (fun n d => r_iloadn gx8_197 rfl) ?_)
      refine pt_d (pt_1 (fun n d => r_iloadn gx8_198 rfl) ?_)
      refine pt_d (pt_virt (as := [.int v1038, .int x2, .int x3]) (r := [.int v1035, .ref 41, .int v1032, .ref 45]) gx8_199 rfl (show zmt[120]? = some zM120 from rfl) rfl rfl rfl rfl (wk_120 S1030 h1038 z2 z3 I1030) (kqI (fun v1039 y1039 h_1039 h1039 P1039 => ?_)))
      have S1039 := P1039.1
      have G1039 := hk_t G1030 P1039.2.1
      have I1039 := P1039.2.2
      show Pt _ _ _ 202 _ [.int v1039, .int v1035, .ref 41, .int v1032, .ref 45] _ _
      refine pt_d (pt_virt (as := [.int v1035, .int v1039]) (r := [.int v1032, .ref 45]) gx8_202 rfl (show zmt[13]? = some zM13 from rfl) rfl rfl rfl rfl (wk_13 S1039 h1035 h1039 I1039) (kqI (fun v1040 y1040 h_1040 h1040 P1040 => ?_)))
      have S1040 := P1040.1
      have G1040 := hk_t G1039 P1040.2.1
      have I1040 := P1040.2.2
      show Pt _ _ _ 205 _ [.int v1040, .int v1032, .ref 45] _ _
      refine pt_d (pt_iasth (N' := 6) gx8_205 S1040 tl_45 h1032 h1040 (fun h_1041 S1041 p1041 q1041 e1041 K1041 => ?_))
      have G1041 := hk_t G1040 K1041
      have I1041 := IV_ua I1040 K1041 e1041 (by decide)
      refine pt_d (pt_1 (fun n d => r_aloadn gx8_206 rfl) ?_)
      refine pt_d (pt_getR gx8_207 S1041 tr_41_6 ?_)
      refine pt_d (pt_iconst gx8_210 (fun v1043 h1043 => ?_))
      refine pt_d (pt_1 (fun n d => r_aloadn gx8_211 rfl) ?_)
      refine pt_d (pt_getR gx8_212 S1041 tr_41_6 ?_)
      refine pt_d (pt_iconst gx8_215 (fun v1045 h1045 => ?_))
      refine pt_d (pt_iald (N' := 6) gx8_216 S1041 tl_45 h1045 (fun v1046 p1046 q1046 h1046 => ?_))
      have h1046 : v1046.toInt = y1040 := by rw [h1046, e1041, up_s]
      refine pt_d (pt_1 (fun n d => r_aloadn gx8_217 rfl) ?_)
      refine pt_d (pt_getR gx8_218 S1041 tr_41_6 ?_)
      refine pt_d (pt_iconst gx8_221 (fun v1048 h1048 => ?_))
      refine pt_d (pt_iald (N' := 6) gx8_222 S1041 tl_45 h1048 (fun v1049 p1049 q1049 h1049 => ?_))
      have h1049 : v1049.toInt = y1040 := by rw [h1049, e1041, up_s]
      refine pt_d (pt_i2l gx8_223 h1049 (fun v1050 h1050 => ?_))
      refine pt_d (pt_bipush gx8_224 (fun v1051 h1051 => ?_))
      refine pt_d (pt_1 (fun n d => r_aloadn gx8_226 rfl) ?_)
      refine pt_d (pt_getR gx8_227 S1041 tr_41_4 ?_)
      refine pt_d (pt_bipush gx8_230 (fun v1053 h1053 => ?_))
      refine pt_d (pt_iald (N' := 13) gx8_232 S1041 tl_43 h1053 (fun v1054 p1054 q1054 h1054 => ?_))
      have h1054 : v1054.toInt = vw h_1040 43 7 := by rw [h1054, e1041, up_c (by decide)]
      refine pt_d (pt_min gx8_233 rfl h1051 h1054 (fun v1055 h1055 => ?_))
      refine pt_d (pt_i2l gx8_236 h1055 (fun v1056 h1056 => ?_))
      refine pt_d (pt_lmul gx8_237 h1050 h1056 (fun v1057 h1057 => ?_))
      refine pt_d (pt_ldc2_w (c := 100) gx8_238 rfl (fun v1058 h1058 => ?_))
      refine pt_d (pt_ldiv gx8_241 h1057 h1058 (fun v1059 h1059 => ?_))
      refine pt_d (pt_l2i gx8_242 h1059 (fun v1060 h1060 => ?_))
      refine pt_d (pt_isub gx8_243 h1046 h1060 (fun v1061 h1061 => ?_))
      refine pt_d (pt_iasth (N' := 6) gx8_244 S1041 tl_45 h1043 h1061 (fun h_1062 S1062 p1062 q1062 e1062 K1062 => ?_))
      have G1062 := hk_t G1041 K1062
      have I1062 := IV_ua I1041 K1062 e1062 (by decide)
      refine pt_d (pt_1 (fun n d => r_aloadn gx8_245 rfl) ?_)
      refine pt_d (pt_getR gx8_246 S1062 tr_41_6 ?_)
      refine pt_d (pt_iconst gx8_249 (fun v1064 h1064 => ?_))
      refine pt_d (pt_iald (N' := 6) gx8_250 S1062 tl_45 h1064 (fun v1065 p1065 q1065 h1065 => ?_))
      have h1065 : v1065.toInt = w32 (y1040 - (w32 (jDiv (w64 (y1040 * (min 100 (vw h_1040 43 7)))) 100))) := by rw [h1065, e1062, up_s]
      exact pt_d (pt_iret gx8_251 ⟨_, rfl, S1062, G1062, I1062⟩)
theorem wk_8 {n : Nat} {X : aX} {h : aH} {x1 : Int32} {x2 : Int32} {x3 : Int32} {x4 : Int32} {a1 : Int} {a2 : Int} {a3 : Int} {a4 : Int} (S : wS h) (z1 : x1.toInt = a1) (z2 : x2.toInt = a2) (z3 : x3.toInt = a3) (z4 : x4.toInt = a4) (I : IV h) : Pt n X zM8 0 [some (.ref 41), some (.int x1), some (.int x2), some (.int x3), some (.int x4), none, none, none, none, none] [] h (qI (fun _ h' => wS h' ∧ hk h h' ∧ IV h')) := (wl_8 n).1 h h x1 x2 x3 x4 S (hk_r h) I
theorem wl_14 {X : aX} : ∀ n : Nat, (∀ (h0 h : aH) (x1 : Int32) (x2 : Int32), wS h → hk h0 h → IV h → Pt n X zM14 0 [some (.ref 41), some (.int x1), some (.int x2), none] [] h (qI (fun _ h' => wS h' ∧ hk h0 h' ∧ IV h'))) := by
  intro n
  induction n with
  | zero => refine ?_ <;> (intros; exact pt_z)
  | succ n ih =>
    have ih14_0 := ih
    refine ?_
    · intro h0 h x1 x2 S G I
      obtain ⟨a1, z1⟩ : ∃ a : Int, x1.toInt = a := ⟨_, rfl⟩
      obtain ⟨a2, z2⟩ : ∃ a : Int, x2.toInt = a := ⟨_, rfl⟩
      refine pt_1 (fun n d => r_aloadn gx14_0 rfl) ?_
      refine pt_d (pt_1 (fun n d => r_iloadn gx14_1 rfl) ?_)
      refine pt_d (pt_1 (fun n d => r_iloadn gx14_2 rfl) ?_)
      refine pt_d (pt_1 (fun n d => r_aloadn gx14_3 rfl) ?_)
      refine pt_d (pt_getR gx14_4 S tr_41_0 ?_)
      refine pt_d (pt_getI (B := 0) gx14_7 S (fun v1002 h1002 => ?_))
      refine pt_d (pt_iconst gx14_10 (fun v1003 h1003 => ?_))
      refine pt_d (pt_virt (as := [.int x1, .int x2, .int v1002, .int v1003]) (r := []) gx14_11 rfl (show zmt[8]? = some zM8 from rfl) rfl rfl rfl rfl (wk_8 S z1 z2 h1002 h1003 I) (kqI (fun v1004 y1004 h_1004 h1004 P1004 => ?_)))
      have S1004 := P1004.1
      have G1004 := hk_t G P1004.2.1
      have I1004 := P1004.2.2
      show Pt _ _ _ 14 _ [.int v1004] _ _
      refine pt_d (pt_1 (fun n d => r_istoren (L' := [some (.ref 41), some (.int x1), some (.int x2), some (.int v1004)]) gx14_14 rfl rfl) ?_)
      refine pt_d (pt_1 (fun n d => r_aloadn gx14_15 rfl) ?_)
      refine pt_d (pt_getR gx14_16 S1004 tr_41_8 ?_)
      refine pt_d (pt_1 (fun n d => r_iloadn gx14_19 rfl) ?_)
      refine pt_d (pt_bipush gx14_20 (fun v1006 h1006 => ?_))
      refine pt_d (pt_imul gx14_22 z1 h1006 (fun v1007 h1007 => ?_))
      refine pt_d (pt_1 (fun n d => r_iloadn gx14_23 rfl) ?_)
      refine pt_d (pt_iadd gx14_24 h1007 z2 (fun v1008 h1008 => ?_))
      refine pt_d (pt_1 (fun n d => r_iloadn gx14_25 rfl) ?_)
      refine pt_d (pt_iasth (N' := 1500) gx14_26 S1004 tl_46 h1008 h1004 (fun h_1009 S1009 p1009 q1009 e1009 K1009 => ?_))
      have G1009 := hk_t G1004 K1009
      have I1009 := IV_ua I1004 K1009 e1009 (by decide)
      refine pt_d (pt_1 (fun n d => r_iloadn gx14_27 rfl) ?_)
      exact pt_d (pt_iret gx14_28 ⟨_, rfl, S1009, G1009, I1009⟩)
theorem wk_14 {n : Nat} {X : aX} {h : aH} {x1 : Int32} {x2 : Int32} {a1 : Int} {a2 : Int} (S : wS h) (z1 : x1.toInt = a1) (z2 : x2.toInt = a2) (I : IV h) : Pt n X zM14 0 [some (.ref 41), some (.int x1), some (.int x2), none] [] h (qI (fun _ h' => wS h' ∧ hk h h' ∧ IV h')) := (wl_14 n) h h x1 x2 S (hk_r h) I
theorem wl_15 {X : aX} : ∀ n : Nat, (∀ (h0 h : aH) (x1 : Int32), wS h → hk h0 h → IV h → Pt n X zM15 0 [some (.ref 41), some (.int x1), none, none, none, none] [] h (qI (fun _ h' => wS h' ∧ hk h0 h' ∧ IV h'))) ∧
    (∀ (h0 h : aH) (x1 : Int32) (x2 : Int64) (x4 : Int32) (x5 : Int32), wS h → hk h0 h → IV h → Pt n X zM15 18 [some (.ref 41), some (.int x1), some (.long x2), none, some (.int x4), some (.int x5)] [] h (qI (fun _ h' => wS h' ∧ hk h0 h' ∧ IV h'))) := by
  intro n
  induction n with
  | zero => refine ⟨?_, ?_⟩ <;> (intros; exact pt_z)
  | succ n ih =>
    obtain ⟨ih15_0, ih15_18⟩ := ih
    refine ⟨?_, ?_⟩
    · intro h0 h x1 S G I
      obtain ⟨a1, z1⟩ : ∃ a : Int, x1.toInt = a := ⟨_, rfl⟩
      refine pt_lconst (c := 0) gx15_0 rfl (fun v1001 h1001 => ?_)
      refine pt_d (pt_1 (fun n d => r_lstoren (L' := [some (.ref 41), some (.int x1), some (.long v1001), none, none, none]) gx15_1 rfl rfl) ?_)
      refine pt_d (pt_1 (fun n d => r_aloadn gx15_2 rfl) ?_)
      refine pt_d (pt_getR gx15_3 S tr_41_0 ?_)
      refine pt_d (pt_getI (B := 0) gx15_6 S (fun v1003 h1003 => ?_))
      refine pt_d (pt_sipush gx15_9 (fun v1004 h1004 => ?_))
      refine pt_d (pt_idiv gx15_12 h1003 h1004 (fun v1005 h1005 => ?_))
      refine pt_d (pt_1 (fun n d => r_istore (L' := [some (.ref 41), some (.int x1), some (.long v1001), none, some (.int v1005), none]) gx15_13 rfl rfl) ?_)
      refine pt_d (pt_iconst gx15_15 (fun v1006 h1006 => ?_))
      refine pt_d (pt_1 (fun n d => r_istore (L' := [some (.ref 41), some (.int x1), some (.long v1001), none, some (.int v1005), some (.int v1006)]) gx15_16 rfl rfl) ?_)
      exact ih15_18 h0 h x1 v1001 v1005 v1006 S G I
    · intro h0 h x1 x2 x4 x5 S G I
      obtain ⟨a1, z1⟩ : ∃ a : Int, x1.toInt = a := ⟨_, rfl⟩
      obtain ⟨a2, z2⟩ : ∃ a : Int, x2.toInt = a := ⟨_, rfl⟩
      obtain ⟨a4, z4⟩ : ∃ a : Int, x4.toInt = a := ⟨_, rfl⟩
      obtain ⟨a5, z5⟩ : ∃ a : Int, x5.toInt = a := ⟨_, rfl⟩
      refine pt_1 (fun n d => r_iload gx15_18 rfl) ?_
      refine pt_d (pt_1 (fun n d => r_iload gx15_20 rfl) ?_)
      refine pt_d (pt_icmp_ge gx15_22 z5 z4 (fun e1001 => ?_) (fun e1001 => ?_))
      · skip
        refine pt_d (pt_ldc2_w (c := (-1999999999)) gx15_70 rfl (fun v1002 h1002 => ?_))
        refine pt_d (pt_ldc2_w (c := 2000000000) gx15_73 rfl (fun v1003 h1003 => ?_))
        refine pt_d (pt_1 (fun n d => r_lloadn gx15_76 rfl) ?_)
        refine pt_d (pt_lmin gx15_77 rfl h1003 z2 (fun v1004 h1004 => ?_))
        refine pt_d (pt_lmax gx15_80 rfl h1002 h1004 (fun v1005 h1005 => ?_))
        refine pt_d (pt_l2i gx15_83 h1005 (fun v1006 h1006 => ?_))
        exact pt_d (pt_iret gx15_84 ⟨_, rfl, S, G, I⟩)
      · skip
        refine pt_d (pt_1 (fun n d => r_iload gx15_25 rfl) ?_)
        refine pt_d (pt_bipush gx15_27 (fun v1007 h1007 => ?_))
        refine pt_d (pt_icmp_ge gx15_29 z5 h1007 (fun e1008 => ?_) (fun e1008 => ?_))
        · skip
          refine pt_d (pt_ldc2_w (c := (-1999999999)) gx15_70 rfl (fun v1009 h1009 => ?_))
          refine pt_d (pt_ldc2_w (c := 2000000000) gx15_73 rfl (fun v1010 h1010 => ?_))
          refine pt_d (pt_1 (fun n d => r_lloadn gx15_76 rfl) ?_)
          refine pt_d (pt_lmin gx15_77 rfl h1010 z2 (fun v1011 h1011 => ?_))
          refine pt_d (pt_lmax gx15_80 rfl h1009 h1011 (fun v1012 h1012 => ?_))
          refine pt_d (pt_l2i gx15_83 h1012 (fun v1013 h1013 => ?_))
          exact pt_d (pt_iret gx15_84 ⟨_, rfl, S, G, I⟩)
        · skip
          refine pt_d (pt_1 (fun n d => r_lloadn gx15_32 rfl) ?_)
          refine pt_d (pt_1 (fun n d => r_aloadn gx15_33 rfl) ?_)
          refine pt_d (pt_1 (fun n d => r_iloadn gx15_34 rfl) ?_)
          refine pt_d (pt_1 (fun n d => r_iload gx15_35 rfl) ?_)
          refine pt_d (pt_1 (fun n d => r_aloadn gx15_37 rfl) ?_)
          refine pt_d (pt_getR gx15_38 S tr_41_0 ?_)
          refine pt_d (pt_getI (B := 0) gx15_41 S (fun v1015 h1015 => ?_))
          refine pt_d (pt_iconst gx15_44 (fun v1016 h1016 => ?_))
          refine pt_d (pt_virt (as := [.int x1, .int x5, .int v1015, .int v1016]) (r := [.long x2]) gx15_45 rfl (show zmt[8]? = some zM8 from rfl) rfl rfl rfl rfl (wk_8 S z1 z5 h1015 h1016 I) (kqI (fun v1017 y1017 h_1017 h1017 P1017 => ?_)))
          have S1017 := P1017.1
          have G1017 := hk_t G P1017.2.1
          have I1017 := P1017.2.2
          show Pt _ _ _ 48 _ [.int v1017, .long x2] _ _
          refine pt_d (pt_1 (fun n d => r_aloadn gx15_48 rfl) ?_)
          refine pt_d (pt_getR gx15_49 S1017 tr_41_8 ?_)
          refine pt_d (pt_1 (fun n d => r_iloadn gx15_52 rfl) ?_)
          refine pt_d (pt_bipush gx15_53 (fun v1019 h1019 => ?_))
          refine pt_d (pt_imul gx15_55 z1 h1019 (fun v1020 h1020 => ?_))
          refine pt_d (pt_1 (fun n d => r_iload gx15_56 rfl) ?_)
          refine pt_d (pt_iadd gx15_58 h1020 z5 (fun v1021 h1021 => ?_))
          refine pt_d (pt_iald (N' := 1500) gx15_59 S1017 tl_46 h1021 (fun v1022 p1022 q1022 h1022 => ?_))
          refine pt_d (pt_isub gx15_60 h1017 h1022 (fun v1023 h1023 => ?_))
          refine pt_d (pt_i2l gx15_61 h1023 (fun v1024 h1024 => ?_))
          refine pt_d (pt_ladd gx15_62 z2 h1024 (fun v1025 h1025 => ?_))
          refine pt_d (pt_1 (fun n d => r_lstoren (L' := [some (.ref 41), some (.int x1), some (.long v1025), none, some (.int x4), some (.int x5)]) gx15_63 rfl rfl) ?_)
          refine pt_d (pt_iinc (c := 1) gx15_64 rfl z5 (fun v1026 h1026 => ?_))
          show Pt _ _ _ _ [some (.ref 41), some (.int x1), some (.long v1025), none, some (.int x4), some (.int v1026)] [] _ _
          refine pt_d (pt_1 (fun n d => r_goto gx15_67) ?_)
          exact ih15_18 h0 h_1017 x1 v1025 x4 v1026 S1017 G1017 I1017
theorem wk_15 {n : Nat} {X : aX} {h : aH} {x1 : Int32} {a1 : Int} (S : wS h) (z1 : x1.toInt = a1) (I : IV h) : Pt n X zM15 0 [some (.ref 41), some (.int x1), none, none, none, none] [] h (qI (fun _ h' => wS h' ∧ hk h h' ∧ IV h')) := (wl_15 n).1 h h x1 S (hk_r h) I
theorem wl_17 {X : aX} : ∀ n : Nat, (∀ (h0 h : aH) (x1 : Int32) (x2 : Int64) (x4 : Int64), wS h → hk h0 h → IV h → Pt n X zM17 0 [some (.ref 41), some (.int x1), some (.long x2), none, some (.long x4), none, none, none, none, none, none, none, none, none] [] h (qI (fun _ h' => wS h' ∧ hk h0 h' ∧ IV h'))) ∧
    (∀ (h0 h : aH) (x1 : Int32) (x2 : Int64) (x4 : Int64) (x6 : Int64) (x8 : Int64) (x10 : Int32) (x11 : Int32) (u12 : Option Value), wS h → hk h0 h → IV h → Pt n X zM17 23 [some (.ref 41), some (.int x1), some (.long x2), none, some (.long x4), none, some (.long x6), none, some (.long x8), none, some (.int x10), some (.int x11), u12, none] [] h (qI (fun _ h' => wS h' ∧ hk h0 h' ∧ IV h'))) ∧
    (∀ (h0 h : aH) (x1 : Int32) (x2 : Int64) (x4 : Int64) (x6 : Int64) (x8 : Int64) (x10 : Int32) (x11 : Int32) (x12 : Int64) (xs0 : Int32), wS h → hk h0 h → IV h → Pt n X zM17 92 [some (.ref 41), some (.int x1), some (.long x2), none, some (.long x4), none, some (.long x6), none, some (.long x8), none, some (.int x10), some (.int x11), some (.long x12), none] [.int xs0] h (qI (fun _ h' => wS h' ∧ hk h0 h' ∧ IV h'))) ∧
    (∀ (h0 h : aH) (x1 : Int32) (x2 : Int64) (x4 : Int64) (x6 : Int64) (x8 : Int64) (x10 : Int32) (x11 : Int32) (x12 : Int64) (xs0 : Int32), wS h → hk h0 h → IV h → Pt n X zM17 96 [some (.ref 41), some (.int x1), some (.long x2), none, some (.long x4), none, some (.long x6), none, some (.long x8), none, some (.int x10), some (.int x11), some (.long x12), none] [.int xs0] h (qI (fun _ h' => wS h' ∧ hk h0 h' ∧ IV h'))) ∧
    (∀ (h0 h : aH) (x1 : Int32) (x2 : Int64) (x4 : Int64) (x6 : Int64) (x8 : Int64) (x10 : Int32) (x11 : Int32) (x12 : Int64) (xs0 : Int32) (xs1 : Int32), wS h → hk h0 h → IV h → Pt n X zM17 97 [some (.ref 41), some (.int x1), some (.long x2), none, some (.long x4), none, some (.long x6), none, some (.long x8), none, some (.int x10), some (.int x11), some (.long x12), none] [.int xs1, .int xs0] h (qI (fun _ h' => wS h' ∧ hk h0 h' ∧ IV h'))) ∧
    (∀ (h0 h : aH) (x1 : Int32) (x2 : Int64) (x4 : Int64) (x6 : Int64) (x8 : Int64) (x10 : Int32) (x11 : Int32) (u12 : Option Value) (xs0 : Int32) (xs1 : Int32), wS h → hk h0 h → IV h → Pt n X zM17 133 [some (.ref 41), some (.int x1), some (.long x2), none, some (.long x4), none, some (.long x6), none, some (.long x8), none, some (.int x10), some (.int x11), u12, none] [.int xs1, .int xs0] h (qI (fun _ h' => wS h' ∧ hk h0 h' ∧ IV h'))) := by
  intro n
  induction n with
  | zero => refine ⟨?_, ?_, ?_, ?_, ?_, ?_⟩ <;> (intros; exact pt_z)
  | succ n ih =>
    obtain ⟨ih17_0, ih17_23, ih17_92, ih17_96, ih17_97, ih17_133⟩ := ih
    refine ⟨?_, ?_, ?_, ?_, ?_, ?_⟩
    · intro h0 h x1 x2 x4 S G I
      obtain ⟨a1, z1⟩ : ∃ a : Int, x1.toInt = a := ⟨_, rfl⟩
      obtain ⟨a2, z2⟩ : ∃ a : Int, x2.toInt = a := ⟨_, rfl⟩
      obtain ⟨a4, z4⟩ : ∃ a : Int, x4.toInt = a := ⟨_, rfl⟩
      refine pt_1 (fun n d => r_lloadn gx17_0 rfl) ?_
      refine pt_d (pt_1 (fun n d => r_aloadn gx17_1 rfl) ?_)
      refine pt_d (pt_getR gx17_2 S tr_41_9 ?_)
      refine pt_d (pt_1 (fun n d => r_iloadn gx17_5 rfl) ?_)
      refine pt_d (pt_iald (N' := 150) gx17_6 S tl_47 z1 (fun v1002 p1002 q1002 h1002 => ?_))
      refine pt_d (pt_i2l gx17_7 h1002 (fun v1003 h1003 => ?_))
      refine pt_d (pt_lmul gx17_8 z2 h1003 (fun v1004 h1004 => ?_))
      refine pt_d (pt_1 (fun n d => r_lload gx17_9 rfl) ?_)
      refine pt_d (pt_lrem gx17_11 h1004 z4 (fun v1005 h1005 => ?_))
      refine pt_d (pt_1 (fun n d => r_lstore (L' := [some (.ref 41), some (.int x1), some (.long x2), none, some (.long x4), none, some (.long v1005), none, none, none, none, none, none, none]) gx17_12 rfl rfl) ?_)
      refine pt_d (pt_1 (fun n d => r_lloadn gx17_14 rfl) ?_)
      refine pt_d (pt_1 (fun n d => r_lstore (L' := [some (.ref 41), some (.int x1), some (.long x2), none, some (.long x4), none, some (.long v1005), none, some (.long x2), none, none, none, none, none]) gx17_15 rfl rfl) ?_)
      refine pt_d (pt_iconst gx17_17 (fun v1006 h1006 => ?_))
      refine pt_d (pt_1 (fun n d => r_istore (L' := [some (.ref 41), some (.int x1), some (.long x2), none, some (.long x4), none, some (.long v1005), none, some (.long x2), none, some (.int v1006), none, none, none]) gx17_18 rfl rfl) ?_)
      refine pt_d (pt_iconst gx17_20 (fun v1007 h1007 => ?_))
      refine pt_d (pt_1 (fun n d => r_istore (L' := [some (.ref 41), some (.int x1), some (.long x2), none, some (.long x4), none, some (.long v1005), none, some (.long x2), none, some (.int v1006), some (.int v1007), none, none]) gx17_21 rfl rfl) ?_)
      exact ih17_23 h0 h x1 x2 x4 v1005 x2 v1006 v1007 _ S G I
    · intro h0 h x1 x2 x4 x6 x8 x10 x11 u12 S G I
      obtain ⟨a1, z1⟩ : ∃ a : Int, x1.toInt = a := ⟨_, rfl⟩
      obtain ⟨a2, z2⟩ : ∃ a : Int, x2.toInt = a := ⟨_, rfl⟩
      obtain ⟨a4, z4⟩ : ∃ a : Int, x4.toInt = a := ⟨_, rfl⟩
      obtain ⟨a6, z6⟩ : ∃ a : Int, x6.toInt = a := ⟨_, rfl⟩
      obtain ⟨a8, z8⟩ : ∃ a : Int, x8.toInt = a := ⟨_, rfl⟩
      obtain ⟨a10, z10⟩ : ∃ a : Int, x10.toInt = a := ⟨_, rfl⟩
      obtain ⟨a11, z11⟩ : ∃ a : Int, x11.toInt = a := ⟨_, rfl⟩
      refine pt_1 (fun n d => r_iload gx17_23 rfl) ?_
      refine pt_d (pt_1 (fun n d => r_aloadn gx17_25 rfl) ?_)
      refine pt_d (pt_getR gx17_26 S tr_41_0 ?_)
      refine pt_d (pt_getI (B := 1) gx17_29 S (fun v1002 h1002 => ?_))
      refine pt_d (pt_icmp_ge gx17_32 z11 h1002 (fun e1003 => ?_) (fun e1003 => ?_))
      · skip
        refine pt_d (pt_1 (fun n d => r_lloadn gx17_106 rfl) ?_)
        refine pt_d (pt_1 (fun n d => r_aloadn gx17_107 rfl) ?_)
        refine pt_d (pt_getR gx17_108 S tr_41_9 ?_)
        refine pt_d (pt_1 (fun n d => r_iloadn gx17_111 rfl) ?_)
        refine pt_d (pt_iald (N' := 150) gx17_112 S tl_47 z1 (fun v1005 p1005 q1005 h1005 => ?_))
        refine pt_d (pt_i2l gx17_113 h1005 (fun v1006 h1006 => ?_))
        refine pt_d (pt_lmul gx17_114 z2 h1006 (fun v1007 h1007 => ?_))
        refine pt_d (pt_1 (fun n d => r_lload gx17_115 rfl) ?_)
        refine pt_d (pt_ldiv gx17_117 h1007 z4 (fun v1008 h1008 => ?_))
        refine pt_d (pt_l2i gx17_118 h1008 (fun v1009 h1009 => ?_))
        refine pt_d (pt_1 (fun n d => r_iload gx17_119 rfl) ?_)
        refine pt_d (pt_i2l gx17_121 z10 (fun v1010 h1010 => ?_))
        refine pt_d (pt_1 (fun n d => r_lload gx17_122 rfl) ?_)
        refine pt_d (pt_lcmp_ge gx17_124 gx17_125 h1010 z8 (fun e1011 => ?_) (fun e1011 => ?_))
        · skip
          refine pt_d (pt_iconst gx17_132 (fun v1012 h1012 => ?_))
          exact ih17_133 h0 h x1 x2 x4 x6 x8 x10 x11 _ v1009 v1012 S G I
        · skip
          refine pt_d (pt_iconst gx17_128 (fun v1013 h1013 => ?_))
          refine pt_d (pt_1 (fun n d => r_goto gx17_129) ?_)
          exact ih17_133 h0 h x1 x2 x4 x6 x8 x10 x11 _ v1009 v1013 S G I
      · skip
        refine pt_d (pt_1 (fun n d => r_lloadn gx17_35 rfl) ?_)
        refine pt_d (pt_1 (fun n d => r_aloadn gx17_36 rfl) ?_)
        refine pt_d (pt_getR gx17_37 S tr_41_9 ?_)
        refine pt_d (pt_1 (fun n d => r_iload gx17_40 rfl) ?_)
        refine pt_d (pt_iald (N' := 150) gx17_42 S tl_47 z11 (fun v1015 p1015 q1015 h1015 => ?_))
        refine pt_d (pt_i2l gx17_43 h1015 (fun v1016 h1016 => ?_))
        refine pt_d (pt_lmul gx17_44 z2 h1016 (fun v1017 h1017 => ?_))
        refine pt_d (pt_1 (fun n d => r_lload gx17_45 rfl) ?_)
        refine pt_d (pt_lrem gx17_47 h1017 z4 (fun v1018 h1018 => ?_))
        refine pt_d (pt_1 (fun n d => r_lstore (L' := [some (.ref 41), some (.int x1), some (.long x2), none, some (.long x4), none, some (.long x6), none, some (.long x8), none, some (.int x10), some (.int x11), some (.long v1018), none]) gx17_48 rfl rfl) ?_)
        refine pt_d (pt_1 (fun n d => r_lload gx17_50 rfl) ?_)
        refine pt_d (pt_1 (fun n d => r_lloadn gx17_52 rfl) ?_)
        refine pt_d (pt_1 (fun n d => r_aloadn gx17_53 rfl) ?_)
        refine pt_d (pt_getR gx17_54 S tr_41_9 ?_)
        refine pt_d (pt_1 (fun n d => r_iload gx17_57 rfl) ?_)
        refine pt_d (pt_iald (N' := 150) gx17_59 S tl_47 z11 (fun v1020 p1020 q1020 h1020 => ?_))
        refine pt_d (pt_i2l gx17_60 h1020 (fun v1021 h1021 => ?_))
        refine pt_d (pt_lmul gx17_61 z2 h1021 (fun v1022 h1022 => ?_))
        refine pt_d (pt_1 (fun n d => r_lload gx17_62 rfl) ?_)
        refine pt_d (pt_ldiv gx17_64 h1022 z4 (fun v1023 h1023 => ?_))
        refine pt_d (pt_lsub gx17_65 z8 h1023 (fun v1024 h1024 => ?_))
        refine pt_d (pt_1 (fun n d => r_lstore (L' := [some (.ref 41), some (.int x1), some (.long x2), none, some (.long x4), none, some (.long x6), none, some (.long v1024), none, some (.int x10), some (.int x11), some (.long v1018), none]) gx17_66 rfl rfl) ?_)
        refine pt_d (pt_1 (fun n d => r_iload gx17_68 rfl) ?_)
        refine pt_d (pt_1 (fun n d => r_lload gx17_70 rfl) ?_)
        refine pt_d (pt_1 (fun n d => r_lload gx17_72 rfl) ?_)
        refine pt_d (pt_lcmp_gt gx17_74 gx17_75 h1018 z6 (fun e1025 => ?_) (fun e1025 => ?_))
        · skip
          exact ih17_92 h0 h x1 x2 x4 x6 v1024 x10 x11 v1018 x10 S G I
        · skip
          refine pt_d (pt_1 (fun n d => r_lload gx17_78 rfl) ?_)
          refine pt_d (pt_1 (fun n d => r_lload gx17_80 rfl) ?_)
          refine pt_d (pt_lcmp_ne gx17_82 gx17_83 h1018 z6 (fun e1026 => ?_) (fun e1026 => ?_))
          · skip
            exact ih17_96 h0 h x1 x2 x4 x6 v1024 x10 x11 v1018 x10 S G I
          · skip
            refine pt_d (pt_1 (fun n d => r_iload gx17_86 rfl) ?_)
            refine pt_d (pt_1 (fun n d => r_iloadn gx17_88 rfl) ?_)
            refine pt_d (pt_icmp_ge gx17_89 z11 z1 (fun e1027 => ?_) (fun e1027 => ?_))
            · skip
              exact ih17_96 h0 h x1 x2 x4 x6 v1024 x10 x11 v1018 x10 S G I
            · skip
              exact ih17_92 h0 h x1 x2 x4 x6 v1024 x10 x11 v1018 x10 S G I
    · intro h0 h x1 x2 x4 x6 x8 x10 x11 x12 xs0 S G I
      obtain ⟨a1, z1⟩ : ∃ a : Int, x1.toInt = a := ⟨_, rfl⟩
      obtain ⟨a2, z2⟩ : ∃ a : Int, x2.toInt = a := ⟨_, rfl⟩
      obtain ⟨a4, z4⟩ : ∃ a : Int, x4.toInt = a := ⟨_, rfl⟩
      obtain ⟨a6, z6⟩ : ∃ a : Int, x6.toInt = a := ⟨_, rfl⟩
      obtain ⟨a8, z8⟩ : ∃ a : Int, x8.toInt = a := ⟨_, rfl⟩
      obtain ⟨a10, z10⟩ : ∃ a : Int, x10.toInt = a := ⟨_, rfl⟩
      obtain ⟨a11, z11⟩ : ∃ a : Int, x11.toInt = a := ⟨_, rfl⟩
      obtain ⟨a12, z12⟩ : ∃ a : Int, x12.toInt = a := ⟨_, rfl⟩
      obtain ⟨as0, zs0⟩ : ∃ a : Int, xs0.toInt = a := ⟨_, rfl⟩
      refine pt_iconst gx17_92 (fun v1001 h1001 => ?_)
      refine pt_d (pt_1 (fun n d => r_goto gx17_93) ?_)
      exact ih17_97 h0 h x1 x2 x4 x6 x8 x10 x11 x12 xs0 v1001 S G I
    · intro h0 h x1 x2 x4 x6 x8 x10 x11 x12 xs0 S G I
      obtain ⟨a1, z1⟩ : ∃ a : Int, x1.toInt = a := ⟨_, rfl⟩
      obtain ⟨a2, z2⟩ : ∃ a : Int, x2.toInt = a := ⟨_, rfl⟩
      obtain ⟨a4, z4⟩ : ∃ a : Int, x4.toInt = a := ⟨_, rfl⟩
      obtain ⟨a6, z6⟩ : ∃ a : Int, x6.toInt = a := ⟨_, rfl⟩
      obtain ⟨a8, z8⟩ : ∃ a : Int, x8.toInt = a := ⟨_, rfl⟩
      obtain ⟨a10, z10⟩ : ∃ a : Int, x10.toInt = a := ⟨_, rfl⟩
      obtain ⟨a11, z11⟩ : ∃ a : Int, x11.toInt = a := ⟨_, rfl⟩
      obtain ⟨a12, z12⟩ : ∃ a : Int, x12.toInt = a := ⟨_, rfl⟩
      obtain ⟨as0, zs0⟩ : ∃ a : Int, xs0.toInt = a := ⟨_, rfl⟩
      refine pt_iconst gx17_96 (fun v1001 h1001 => ?_)
      exact ih17_97 h0 h x1 x2 x4 x6 x8 x10 x11 x12 xs0 v1001 S G I
    · intro h0 h x1 x2 x4 x6 x8 x10 x11 x12 xs0 xs1 S G I
      obtain ⟨a1, z1⟩ : ∃ a : Int, x1.toInt = a := ⟨_, rfl⟩
      obtain ⟨a2, z2⟩ : ∃ a : Int, x2.toInt = a := ⟨_, rfl⟩
      obtain ⟨a4, z4⟩ : ∃ a : Int, x4.toInt = a := ⟨_, rfl⟩
      obtain ⟨a6, z6⟩ : ∃ a : Int, x6.toInt = a := ⟨_, rfl⟩
      obtain ⟨a8, z8⟩ : ∃ a : Int, x8.toInt = a := ⟨_, rfl⟩
      obtain ⟨a10, z10⟩ : ∃ a : Int, x10.toInt = a := ⟨_, rfl⟩
      obtain ⟨a11, z11⟩ : ∃ a : Int, x11.toInt = a := ⟨_, rfl⟩
      obtain ⟨a12, z12⟩ : ∃ a : Int, x12.toInt = a := ⟨_, rfl⟩
      obtain ⟨as0, zs0⟩ : ∃ a : Int, xs0.toInt = a := ⟨_, rfl⟩
      obtain ⟨as1, zs1⟩ : ∃ a : Int, xs1.toInt = a := ⟨_, rfl⟩
      refine pt_iadd gx17_97 zs0 zs1 (fun v1001 h1001 => ?_)
      refine pt_d (pt_1 (fun n d => r_istore (L' := [some (.ref 41), some (.int x1), some (.long x2), none, some (.long x4), none, some (.long x6), none, some (.long x8), none, some (.int v1001), some (.int x11), some (.long x12), none]) gx17_98 rfl rfl) ?_)
      refine pt_d (pt_iinc (c := 1) gx17_100 rfl z11 (fun v1002 h1002 => ?_))
      show Pt _ _ _ _ [some (.ref 41), some (.int x1), some (.long x2), none, some (.long x4), none, some (.long x6), none, some (.long x8), none, some (.int v1001), some (.int v1002), some (.long x12), none] [] _ _
      refine pt_d (pt_1 (fun n d => r_goto gx17_103) ?_)
      exact ih17_23 h0 h x1 x2 x4 x6 x8 v1001 v1002 _ S G I
    · intro h0 h x1 x2 x4 x6 x8 x10 x11 u12 xs0 xs1 S G I
      obtain ⟨a1, z1⟩ : ∃ a : Int, x1.toInt = a := ⟨_, rfl⟩
      obtain ⟨a2, z2⟩ : ∃ a : Int, x2.toInt = a := ⟨_, rfl⟩
      obtain ⟨a4, z4⟩ : ∃ a : Int, x4.toInt = a := ⟨_, rfl⟩
      obtain ⟨a6, z6⟩ : ∃ a : Int, x6.toInt = a := ⟨_, rfl⟩
      obtain ⟨a8, z8⟩ : ∃ a : Int, x8.toInt = a := ⟨_, rfl⟩
      obtain ⟨a10, z10⟩ : ∃ a : Int, x10.toInt = a := ⟨_, rfl⟩
      obtain ⟨a11, z11⟩ : ∃ a : Int, x11.toInt = a := ⟨_, rfl⟩
      obtain ⟨as0, zs0⟩ : ∃ a : Int, xs0.toInt = a := ⟨_, rfl⟩
      obtain ⟨as1, zs1⟩ : ∃ a : Int, xs1.toInt = a := ⟨_, rfl⟩
      refine pt_iadd gx17_133 zs0 zs1 (fun v1001 h1001 => ?_)
      exact pt_d (pt_iret gx17_134 ⟨_, rfl, S, G, I⟩)
theorem wk_17 {n : Nat} {X : aX} {h : aH} {x1 : Int32} {x2 : Int64} {x4 : Int64} {a1 : Int} {a2 : Int} {a4 : Int} (S : wS h) (z1 : x1.toInt = a1) (z2 : x2.toInt = a2) (z4 : x4.toInt = a4) (I : IV h) : Pt n X zM17 0 [some (.ref 41), some (.int x1), some (.long x2), none, some (.long x4), none, none, none, none, none, none, none, none, none] [] h (qI (fun _ h' => wS h' ∧ hk h h' ∧ IV h')) := (wl_17 n).1 h h x1 x2 x4 S (hk_r h) I
theorem wl_16 {X : aX} : ∀ n : Nat, (∀ (h0 h : aH) (x1 : Int32) (x2 : Int32) (x3 : Int32), wS h → hk h0 h → IV h → Pt n X zM16 0 [some (.ref 41), some (.int x1), some (.int x2), some (.int x3), none, none, none, none] [] h (qI (fun _ h' => wS h' ∧ hk h0 h' ∧ IV h'))) ∧
    (∀ (h0 h : aH) (x1 : Int32) (x2 : Int32) (x3 : Int32) (x4 : Int32) (x5 : Int64) (x7 : Int32), wS h → hk h0 h → IV h → Pt n X zM16 17 [some (.ref 41), some (.int x1), some (.int x2), some (.int x3), some (.int x4), some (.long x5), none, some (.int x7)] [] h (qI (fun _ h' => wS h' ∧ hk h0 h' ∧ IV h'))) ∧
    (∀ (h0 h : aH) (x1 : Int32) (x2 : Int32) (x3 : Int32) (x4 : Int32) (x5 : Int64) (x7 : Int32) (xs1 : Int32) (xs2 : Int32), wS h → hk h0 h → IV h → Pt n X zM16 68 [some (.ref 41), some (.int x1), some (.int x2), some (.int x3), some (.int x4), some (.long x5), none, some (.int x7)] [.int xs2, .int xs1, .ref 47] h (qI (fun _ h' => wS h' ∧ hk h0 h' ∧ IV h'))) ∧
    (∀ (h0 h : aH) (x1 : Int32) (x2 : Int32) (x3 : Int32) (x4 : Int32) (x5 : Int64) (x7 : Int32), wS h → hk h0 h → IV h → Pt n X zM16 103 [some (.ref 41), some (.int x1), some (.int x2), some (.int x3), some (.int x4), some (.long x5), none, some (.int x7)] [] h (qI (fun _ h' => wS h' ∧ hk h0 h' ∧ IV h'))) := by
  intro n
  induction n with
  | zero => refine ⟨?_, ?_, ?_, ?_⟩ <;> (intros; exact pt_z)
  | succ n ih =>
    obtain ⟨ih16_0, ih16_17, ih16_68, ih16_103⟩ := ih
    refine ⟨?_, ?_, ?_, ?_⟩
    · intro h0 h x1 x2 x3 S G I
      obtain ⟨a1, z1⟩ : ∃ a : Int, x1.toInt = a := ⟨_, rfl⟩
      obtain ⟨a2, z2⟩ : ∃ a : Int, x2.toInt = a := ⟨_, rfl⟩
      obtain ⟨a3, z3⟩ : ∃ a : Int, x3.toInt = a := ⟨_, rfl⟩
      refine pt_1 (fun n d => r_aloadn gx16_0 rfl) ?_
      refine pt_d (pt_getR gx16_1 S tr_41_0 ?_)
      refine pt_d (pt_getR gx16_4 S tr_1_8 ?_)
      refine pt_d (pt_1 (fun n d => r_iloadn gx16_7 rfl) ?_)
      refine pt_d (pt_iald (N' := 150) gx16_8 S tl_3 z1 (fun v1003 p1003 q1003 h1003 => ?_))
      refine pt_d (pt_1 (fun n d => r_istore (L' := [some (.ref 41), some (.int x1), some (.int x2), some (.int x3), some (.int v1003), none, none, none]) gx16_9 rfl rfl) ?_)
      refine pt_d (pt_lconst (c := 0) gx16_11 rfl (fun v1004 h1004 => ?_))
      refine pt_d (pt_1 (fun n d => r_lstore (L' := [some (.ref 41), some (.int x1), some (.int x2), some (.int x3), some (.int v1003), some (.long v1004), none, none]) gx16_12 rfl rfl) ?_)
      refine pt_d (pt_iconst gx16_14 (fun v1005 h1005 => ?_))
      refine pt_d (pt_1 (fun n d => r_istore (L' := [some (.ref 41), some (.int x1), some (.int x2), some (.int x3), some (.int v1003), some (.long v1004), none, some (.int v1005)]) gx16_15 rfl rfl) ?_)
      exact ih16_17 h0 h x1 x2 x3 v1003 v1004 v1005 S G I
    · intro h0 h x1 x2 x3 x4 x5 x7 S G I
      obtain ⟨a1, z1⟩ : ∃ a : Int, x1.toInt = a := ⟨_, rfl⟩
      obtain ⟨a2, z2⟩ : ∃ a : Int, x2.toInt = a := ⟨_, rfl⟩
      obtain ⟨a3, z3⟩ : ∃ a : Int, x3.toInt = a := ⟨_, rfl⟩
      obtain ⟨a4, z4⟩ : ∃ a : Int, x4.toInt = a := ⟨_, rfl⟩
      obtain ⟨a5, z5⟩ : ∃ a : Int, x5.toInt = a := ⟨_, rfl⟩
      obtain ⟨a7, z7⟩ : ∃ a : Int, x7.toInt = a := ⟨_, rfl⟩
      refine pt_1 (fun n d => r_iload gx16_17 rfl) ?_
      refine pt_d (pt_1 (fun n d => r_aloadn gx16_19 rfl) ?_)
      refine pt_d (pt_getR gx16_20 S tr_41_0 ?_)
      refine pt_d (pt_getI (B := 1) gx16_23 S (fun v1002 h1002 => ?_))
      refine pt_d (pt_icmp_ge gx16_26 z7 h1002 (fun e1003 => ?_) (fun e1003 => ?_))
      · skip
        refine pt_d (pt_1 (fun n d => r_lload gx16_88 rfl) ?_)
        refine pt_d (pt_1 (fun n d => r_iloadn gx16_90 rfl) ?_)
        refine pt_d (pt_i2l gx16_91 z3 (fun v1004 h1004 => ?_))
        refine pt_d (pt_lcmp_le gx16_92 gx16_93 z5 h1004 (fun e1005 => ?_) (fun e1005 => ?_))
        · skip
          exact ih16_103 h0 h x1 x2 x3 x4 x5 x7 S G I
        · skip
          refine pt_d (pt_1 (fun n d => r_lload gx16_96 rfl) ?_)
          refine pt_d (pt_lconst (c := 0) gx16_98 rfl (fun v1006 h1006 => ?_))
          refine pt_d (pt_lcmp_gt gx16_99 gx16_100 z5 h1006 (fun e1007 => ?_) (fun e1007 => ?_))
          · skip
            refine pt_d (pt_1 (fun n d => r_aloadn gx16_110 rfl) ?_)
            refine pt_d (pt_1 (fun n d => r_iloadn gx16_111 rfl) ?_)
            refine pt_d (pt_1 (fun n d => r_iloadn gx16_112 rfl) ?_)
            refine pt_d (pt_i2l gx16_113 z3 (fun v1008 h1008 => ?_))
            refine pt_d (pt_1 (fun n d => r_lload gx16_114 rfl) ?_)
            refine pt_d (pt_virt (as := [.int x1, .long v1008, .long x5]) (r := []) gx16_116 rfl (show zmt[17]? = some zM17 from rfl) rfl rfl rfl rfl (wk_17 S z1 h1008 z5 I) (kqI (fun v1009 y1009 h_1009 h1009 P1009 => ?_)))
            have S1009 := P1009.1
            have G1009 := hk_t G P1009.2.1
            have I1009 := P1009.2.2
            show Pt _ _ _ 119 _ [.int v1009] _ _
            exact pt_d (pt_iret gx16_119 ⟨_, rfl, S1009, G1009, I1009⟩)
          · skip
            exact ih16_103 h0 h x1 x2 x3 x4 x5 x7 S G I
      · skip
        refine pt_d (pt_1 (fun n d => r_aloadn gx16_29 rfl) ?_)
        refine pt_d (pt_getR gx16_30 S tr_41_9 ?_)
        refine pt_d (pt_1 (fun n d => r_iload gx16_33 rfl) ?_)
        refine pt_d (pt_1 (fun n d => r_aloadn gx16_35 rfl) ?_)
        refine pt_d (pt_getR gx16_36 S tr_41_0 ?_)
        refine pt_d (pt_1 (fun n d => r_iload gx16_39 rfl) ?_)
        refine pt_d (pt_1 (fun n d => r_iload gx16_41 rfl) ?_)
        refine pt_d (pt_virt (as := [.int x7, .int x4]) (r := [.int x7, .ref 47]) gx16_43 rfl (show zmt[76]? = some zM76 from rfl) rfl rfl rfl rfl (c_76 S z7 z4) (kqP (fun v1012 h1012 => ?_)))
        show Pt _ _ _ 46 _ [.int v1012, .int x7, .ref 47] _ _
        refine pt_d (pt_ifB_eq gx16_46 h1012 (fun e1013 => ?_) (fun e1013 => ?_))
        · skip
          refine pt_d (pt_iconst gx16_67 (fun v1014 h1014 => ?_))
          exact ih16_68 h0 h x1 x2 x3 x4 x5 x7 x7 v1014 S G I
        · skip
          refine pt_d (pt_1 (fun n d => r_aloadn gx16_49 rfl) ?_)
          refine pt_d (pt_1 (fun n d => r_iload gx16_50 rfl) ?_)
          refine pt_d (pt_1 (fun n d => r_iloadn gx16_52 rfl) ?_)
          refine pt_d (pt_1 (fun n d => r_aloadn gx16_53 rfl) ?_)
          refine pt_d (pt_getR gx16_54 S tr_41_0 ?_)
          refine pt_d (pt_getI (B := 0) gx16_57 S (fun v1016 h1016 => ?_))
          refine pt_d (pt_iconst gx16_60 (fun v1017 h1017 => ?_))
          refine pt_d (pt_virt (as := [.int x7, .int x2, .int v1016, .int v1017]) (r := [.int x7, .ref 47]) gx16_61 rfl (show zmt[8]? = some zM8 from rfl) rfl rfl rfl rfl (wk_8 S z7 z2 h1016 h1017 I) (kqI (fun v1018 y1018 h_1018 h1018 P1018 => ?_)))
          have S1018 := P1018.1
          have G1018 := hk_t G P1018.2.1
          have I1018 := P1018.2.2
          show Pt _ _ _ 64 _ [.int v1018, .int x7, .ref 47] _ _
          refine pt_d (pt_1 (fun n d => r_goto gx16_64) ?_)
          exact ih16_68 h0 h_1018 x1 x2 x3 x4 x5 x7 x7 v1018 S1018 G1018 I1018
    · intro h0 h x1 x2 x3 x4 x5 x7 xs1 xs2 S G I
      obtain ⟨a1, z1⟩ : ∃ a : Int, x1.toInt = a := ⟨_, rfl⟩
      obtain ⟨a2, z2⟩ : ∃ a : Int, x2.toInt = a := ⟨_, rfl⟩
      obtain ⟨a3, z3⟩ : ∃ a : Int, x3.toInt = a := ⟨_, rfl⟩
      obtain ⟨a4, z4⟩ : ∃ a : Int, x4.toInt = a := ⟨_, rfl⟩
      obtain ⟨a5, z5⟩ : ∃ a : Int, x5.toInt = a := ⟨_, rfl⟩
      obtain ⟨a7, z7⟩ : ∃ a : Int, x7.toInt = a := ⟨_, rfl⟩
      obtain ⟨as1, zs1⟩ : ∃ a : Int, xs1.toInt = a := ⟨_, rfl⟩
      obtain ⟨as2, zs2⟩ : ∃ a : Int, xs2.toInt = a := ⟨_, rfl⟩
      refine pt_iasth (N' := 150) gx16_68 S tl_47 zs1 zs2 (fun h_1001 S1001 p1001 q1001 e1001 K1001 => ?_)
      have G1001 := hk_t G K1001
      have I1001 := IV_ua I K1001 e1001 (by decide)
      refine pt_d (pt_1 (fun n d => r_lload gx16_69 rfl) ?_)
      refine pt_d (pt_1 (fun n d => r_aloadn gx16_71 rfl) ?_)
      refine pt_d (pt_getR gx16_72 S1001 tr_41_9 ?_)
      refine pt_d (pt_1 (fun n d => r_iload gx16_75 rfl) ?_)
      refine pt_d (pt_iald (N' := 150) gx16_77 S1001 tl_47 z7 (fun v1003 p1003 q1003 h1003 => ?_))
      have h1003 : v1003.toInt = (up (vw h) 47 as1 as2) 47 a7 := by rw [h1003, e1001]
      refine pt_d (pt_i2l gx16_78 h1003 (fun v1004 h1004 => ?_))
      refine pt_d (pt_ladd gx16_79 z5 h1004 (fun v1005 h1005 => ?_))
      refine pt_d (pt_1 (fun n d => r_lstore (L' := [some (.ref 41), some (.int x1), some (.int x2), some (.int x3), some (.int x4), some (.long v1005), none, some (.int x7)]) gx16_80 rfl rfl) ?_)
      refine pt_d (pt_iinc (c := 1) gx16_82 rfl z7 (fun v1006 h1006 => ?_))
      show Pt _ _ _ _ [some (.ref 41), some (.int x1), some (.int x2), some (.int x3), some (.int x4), some (.long v1005), none, some (.int v1006)] [] _ _
      refine pt_d (pt_1 (fun n d => r_goto gx16_85) ?_)
      exact ih16_17 h0 h_1001 x1 x2 x3 x4 v1005 v1006 S1001 G1001 I1001
    · intro h0 h x1 x2 x3 x4 x5 x7 S G I
      obtain ⟨a1, z1⟩ : ∃ a : Int, x1.toInt = a := ⟨_, rfl⟩
      obtain ⟨a2, z2⟩ : ∃ a : Int, x2.toInt = a := ⟨_, rfl⟩
      obtain ⟨a3, z3⟩ : ∃ a : Int, x3.toInt = a := ⟨_, rfl⟩
      obtain ⟨a4, z4⟩ : ∃ a : Int, x4.toInt = a := ⟨_, rfl⟩
      obtain ⟨a5, z5⟩ : ∃ a : Int, x5.toInt = a := ⟨_, rfl⟩
      obtain ⟨a7, z7⟩ : ∃ a : Int, x7.toInt = a := ⟨_, rfl⟩
      refine pt_1 (fun n d => r_aloadn gx16_103 rfl) ?_
      refine pt_d (pt_getR gx16_104 S tr_41_9 ?_)
      refine pt_d (pt_1 (fun n d => r_iloadn gx16_107 rfl) ?_)
      refine pt_d (pt_iald (N' := 150) gx16_108 S tl_47 z1 (fun v1002 p1002 q1002 h1002 => ?_))
      exact pt_d (pt_iret gx16_109 ⟨_, rfl, S, G, I⟩)
theorem wk_16 {n : Nat} {X : aX} {h : aH} {x1 : Int32} {x2 : Int32} {x3 : Int32} {a1 : Int} {a2 : Int} {a3 : Int} (S : wS h) (z1 : x1.toInt = a1) (z2 : x2.toInt = a2) (z3 : x3.toInt = a3) (I : IV h) : Pt n X zM16 0 [some (.ref 41), some (.int x1), some (.int x2), some (.int x3), none, none, none, none] [] h (qI (fun _ h' => wS h' ∧ hk h h' ∧ IV h')) := (wl_16 n).1 h h x1 x2 x3 S (hk_r h) I
theorem wl_18 {X : aX} : ∀ n : Nat, (∀ (h0 h : aH) (x1 : Int32) (x2 : Int32) (x3 : Int32) (x4 : Int32), wS h → hk h0 h → IV h → Pt n X zM18 0 [some (.ref 41), some (.int x1), some (.int x2), some (.int x3), some (.int x4), none, none, none, none] [] h (qI (fun _ h' => wS h' ∧ hk h0 h' ∧ IV h'))) ∧
    (∀ (h0 h : aH) (x1 : Int32) (x2 : Int32) (x3 : Int32) (x4 : Int32) (x5 : Int32) (x6 : Int32) (u7 : Option Value) (u8 : Option Value), wS h → hk h0 h → IV h → Pt n X zM18 6 [some (.ref 41), some (.int x1), some (.int x2), some (.int x3), some (.int x4), some (.int x5), some (.int x6), u7, u8] [] h (qI (fun _ h' => wS h' ∧ hk h0 h' ∧ IV h'))) := by
  intro n
  induction n with
  | zero => refine ⟨?_, ?_⟩ <;> (intros; exact pt_z)
  | succ n ih =>
    obtain ⟨ih18_0, ih18_6⟩ := ih
    refine ⟨?_, ?_⟩
    · intro h0 h x1 x2 x3 x4 S G I
      obtain ⟨a1, z1⟩ : ∃ a : Int, x1.toInt = a := ⟨_, rfl⟩
      obtain ⟨a2, z2⟩ : ∃ a : Int, x2.toInt = a := ⟨_, rfl⟩
      obtain ⟨a3, z3⟩ : ∃ a : Int, x3.toInt = a := ⟨_, rfl⟩
      obtain ⟨a4, z4⟩ : ∃ a : Int, x4.toInt = a := ⟨_, rfl⟩
      refine pt_iconst gx18_0 (fun v1001 h1001 => ?_)
      refine pt_d (pt_1 (fun n d => r_istore (L' := [some (.ref 41), some (.int x1), some (.int x2), some (.int x3), some (.int x4), some (.int v1001), none, none, none]) gx18_1 rfl rfl) ?_)
      refine pt_d (pt_iconst gx18_3 (fun v1002 h1002 => ?_))
      refine pt_d (pt_1 (fun n d => r_istore (L' := [some (.ref 41), some (.int x1), some (.int x2), some (.int x3), some (.int x4), some (.int v1001), some (.int v1002), none, none]) gx18_4 rfl rfl) ?_)
      exact ih18_6 h0 h x1 x2 x3 x4 v1001 v1002 _ _ S G I
    · intro h0 h x1 x2 x3 x4 x5 x6 u7 u8 S G I
      obtain ⟨a1, z1⟩ : ∃ a : Int, x1.toInt = a := ⟨_, rfl⟩
      obtain ⟨a2, z2⟩ : ∃ a : Int, x2.toInt = a := ⟨_, rfl⟩
      obtain ⟨a3, z3⟩ : ∃ a : Int, x3.toInt = a := ⟨_, rfl⟩
      obtain ⟨a4, z4⟩ : ∃ a : Int, x4.toInt = a := ⟨_, rfl⟩
      obtain ⟨a5, z5⟩ : ∃ a : Int, x5.toInt = a := ⟨_, rfl⟩
      obtain ⟨a6, z6⟩ : ∃ a : Int, x6.toInt = a := ⟨_, rfl⟩
      refine pt_1 (fun n d => r_iload gx18_6 rfl) ?_
      refine pt_d (pt_1 (fun n d => r_aloadn gx18_8 rfl) ?_)
      refine pt_d (pt_getR gx18_9 S tr_41_0 ?_)
      refine pt_d (pt_getI (B := 1) gx18_12 S (fun v1002 h1002 => ?_))
      refine pt_d (pt_icmp_ge gx18_15 z6 h1002 (fun e1003 => ?_) (fun e1003 => ?_))
      · skip
        refine pt_d (pt_1 (fun n d => r_iload gx18_103 rfl) ?_)
        exact pt_d (pt_iret gx18_105 ⟨_, rfl, S, G, I⟩)
      · skip
        refine pt_d (pt_1 (fun n d => r_aloadn gx18_18 rfl) ?_)
        refine pt_d (pt_getR gx18_19 S tr_41_0 ?_)
        refine pt_d (pt_1 (fun n d => r_iload gx18_22 rfl) ?_)
        refine pt_d (pt_1 (fun n d => r_iloadn gx18_24 rfl) ?_)
        refine pt_d (pt_virt (as := [.int x6, .int x2]) (r := []) gx18_25 rfl (show zmt[76]? = some zM76 from rfl) rfl rfl rfl rfl (c_76 S z6 z2) (kqP (fun v1005 h1005 => ?_)))
        show Pt _ _ _ 28 _ [.int v1005] _ _
        refine pt_d (pt_ifB_eq gx18_28 h1005 (fun e1006 => ?_) (fun e1006 => ?_))
        · skip
          refine pt_d (pt_iinc (c := 1) gx18_97 rfl z6 (fun v1007 h1007 => ?_))
          show Pt _ _ _ _ [some (.ref 41), some (.int x1), some (.int x2), some (.int x3), some (.int x4), some (.int x5), some (.int v1007), u7, u8] [] _ _
          refine pt_d (pt_1 (fun n d => r_goto gx18_100) ?_)
          exact ih18_6 h0 h x1 x2 x3 x4 x5 v1007 _ _ S G I
        · skip
          refine pt_d (pt_1 (fun n d => r_aloadn gx18_31 rfl) ?_)
          refine pt_d (pt_1 (fun n d => r_iload gx18_32 rfl) ?_)
          refine pt_d (pt_1 (fun n d => r_iloadn gx18_34 rfl) ?_)
          refine pt_d (pt_1 (fun n d => r_aloadn gx18_35 rfl) ?_)
          refine pt_d (pt_getR gx18_36 S tr_41_0 ?_)
          refine pt_d (pt_getI (B := 0) gx18_39 S (fun v1009 h1009 => ?_))
          refine pt_d (pt_iconst gx18_42 (fun v1010 h1010 => ?_))
          refine pt_d (pt_virt (as := [.int x6, .int x3, .int v1009, .int v1010]) (r := []) gx18_43 rfl (show zmt[8]? = some zM8 from rfl) rfl rfl rfl rfl (wk_8 S z6 z3 h1009 h1010 I) (kqI (fun v1011 y1011 h_1011 h1011 P1011 => ?_)))
          have S1011 := P1011.1
          have G1011 := hk_t G P1011.2.1
          have I1011 := P1011.2.2
          show Pt _ _ _ 46 _ [.int v1011] _ _
          refine pt_d (pt_1 (fun n d => r_istore (L' := [some (.ref 41), some (.int x1), some (.int x2), some (.int x3), some (.int x4), some (.int x5), some (.int x6), some (.int v1011), u8]) gx18_46 rfl rfl) ?_)
          refine pt_d (pt_1 (fun n d => r_aloadn gx18_48 rfl) ?_)
          refine pt_d (pt_1 (fun n d => r_iload gx18_49 rfl) ?_)
          refine pt_d (pt_1 (fun n d => r_iloadn gx18_51 rfl) ?_)
          refine pt_d (pt_1 (fun n d => r_aloadn gx18_52 rfl) ?_)
          refine pt_d (pt_getR gx18_53 S1011 tr_41_0 ?_)
          refine pt_d (pt_getI (B := 0) gx18_56 S1011 (fun v1013 h1013 => ?_))
          refine pt_d (pt_1 (fun n d => r_iloadn gx18_59 rfl) ?_)
          refine pt_d (pt_virt (as := [.int x6, .int x3, .int v1013, .int x1]) (r := []) gx18_60 rfl (show zmt[8]? = some zM8 from rfl) rfl rfl rfl rfl (wk_8 S1011 z6 z3 h1013 z1 I1011) (kqI (fun v1014 y1014 h_1014 h1014 P1014 => ?_)))
          have S1014 := P1014.1
          have G1014 := hk_t G1011 P1014.2.1
          have I1014 := P1014.2.2
          show Pt _ _ _ 63 _ [.int v1014] _ _
          refine pt_d (pt_1 (fun n d => r_istore (L' := [some (.ref 41), some (.int x1), some (.int x2), some (.int x3), some (.int x4), some (.int x5), some (.int x6), some (.int v1011), some (.int v1014)]) gx18_63 rfl rfl) ?_)
          refine pt_d (pt_1 (fun n d => r_iload gx18_65 rfl) ?_)
          refine pt_d (pt_1 (fun n d => r_iload gx18_67 rfl) ?_)
          refine pt_d (pt_if_eq gx18_69 z4 (fun e1015 => ?_) (fun e1015 => ?_))
          · skip
            refine pt_d (pt_1 (fun n d => r_iload gx18_82 rfl) ?_)
            refine pt_d (pt_1 (fun n d => r_iload gx18_84 rfl) ?_)
            refine pt_d (pt_icmp_ge gx18_86 h1014 h1011 (fun e1016 => ?_) (fun e1016 => ?_))
            · skip
              refine pt_d (pt_iconst gx18_93 (fun v1017 h1017 => ?_))
              refine pt_d (pt_iadd gx18_94 z5 h1017 (fun v1018 h1018 => ?_))
              refine pt_d (pt_1 (fun n d => r_istore (L' := [some (.ref 41), some (.int x1), some (.int x2), some (.int x3), some (.int x4), some (.int v1018), some (.int x6), some (.int v1011), some (.int v1014)]) gx18_95 rfl rfl) ?_)
              refine pt_d (pt_iinc (c := 1) gx18_97 rfl z6 (fun v1019 h1019 => ?_))
              show Pt _ _ _ _ [some (.ref 41), some (.int x1), some (.int x2), some (.int x3), some (.int x4), some (.int v1018), some (.int v1019), some (.int v1011), some (.int v1014)] [] _ _
              refine pt_d (pt_1 (fun n d => r_goto gx18_100) ?_)
              exact ih18_6 h0 h_1014 x1 x2 x3 x4 v1018 v1019 _ _ S1014 G1014 I1014
            · skip
              refine pt_d (pt_iconst gx18_89 (fun v1020 h1020 => ?_))
              refine pt_d (pt_1 (fun n d => r_goto gx18_90) ?_)
              refine pt_d (pt_iadd gx18_94 z5 h1020 (fun v1021 h1021 => ?_))
              refine pt_d (pt_1 (fun n d => r_istore (L' := [some (.ref 41), some (.int x1), some (.int x2), some (.int x3), some (.int x4), some (.int v1021), some (.int x6), some (.int v1011), some (.int v1014)]) gx18_95 rfl rfl) ?_)
              refine pt_d (pt_iinc (c := 1) gx18_97 rfl z6 (fun v1022 h1022 => ?_))
              show Pt _ _ _ _ [some (.ref 41), some (.int x1), some (.int x2), some (.int x3), some (.int x4), some (.int v1021), some (.int v1022), some (.int v1011), some (.int v1014)] [] _ _
              refine pt_d (pt_1 (fun n d => r_goto gx18_100) ?_)
              exact ih18_6 h0 h_1014 x1 x2 x3 x4 v1021 v1022 _ _ S1014 G1014 I1014
          · skip
            refine pt_d (pt_1 (fun n d => r_iload gx18_72 rfl) ?_)
            refine pt_d (pt_1 (fun n d => r_iload gx18_74 rfl) ?_)
            refine pt_d (pt_icmp_le gx18_76 h1014 h1011 (fun e1023 => ?_) (fun e1023 => ?_))
            · skip
              refine pt_d (pt_iconst gx18_93 (fun v1024 h1024 => ?_))
              refine pt_d (pt_iadd gx18_94 z5 h1024 (fun v1025 h1025 => ?_))
              refine pt_d (pt_1 (fun n d => r_istore (L' := [some (.ref 41), some (.int x1), some (.int x2), some (.int x3), some (.int x4), some (.int v1025), some (.int x6), some (.int v1011), some (.int v1014)]) gx18_95 rfl rfl) ?_)
              refine pt_d (pt_iinc (c := 1) gx18_97 rfl z6 (fun v1026 h1026 => ?_))
              show Pt _ _ _ _ [some (.ref 41), some (.int x1), some (.int x2), some (.int x3), some (.int x4), some (.int v1025), some (.int v1026), some (.int v1011), some (.int v1014)] [] _ _
              refine pt_d (pt_1 (fun n d => r_goto gx18_100) ?_)
              exact ih18_6 h0 h_1014 x1 x2 x3 x4 v1025 v1026 _ _ S1014 G1014 I1014
            · skip
              refine pt_d (pt_1 (fun n d => r_goto gx18_79) ?_)
              refine pt_d (pt_iconst gx18_89 (fun v1027 h1027 => ?_))
              refine pt_d (pt_1 (fun n d => r_goto gx18_90) ?_)
              refine pt_d (pt_iadd gx18_94 z5 h1027 (fun v1028 h1028 => ?_))
              refine pt_d (pt_1 (fun n d => r_istore (L' := [some (.ref 41), some (.int x1), some (.int x2), some (.int x3), some (.int x4), some (.int v1028), some (.int x6), some (.int v1011), some (.int v1014)]) gx18_95 rfl rfl) ?_)
              refine pt_d (pt_iinc (c := 1) gx18_97 rfl z6 (fun v1029 h1029 => ?_))
              show Pt _ _ _ _ [some (.ref 41), some (.int x1), some (.int x2), some (.int x3), some (.int x4), some (.int v1028), some (.int v1029), some (.int v1011), some (.int v1014)] [] _ _
              refine pt_d (pt_1 (fun n d => r_goto gx18_100) ?_)
              exact ih18_6 h0 h_1014 x1 x2 x3 x4 v1028 v1029 _ _ S1014 G1014 I1014
theorem wk_18 {n : Nat} {X : aX} {h : aH} {x1 : Int32} {x2 : Int32} {x3 : Int32} {x4 : Int32} {a1 : Int} {a2 : Int} {a3 : Int} {a4 : Int} (S : wS h) (z1 : x1.toInt = a1) (z2 : x2.toInt = a2) (z3 : x3.toInt = a3) (z4 : x4.toInt = a4) (I : IV h) : Pt n X zM18 0 [some (.ref 41), some (.int x1), some (.int x2), some (.int x3), some (.int x4), none, none, none, none] [] h (qI (fun _ h' => wS h' ∧ hk h h' ∧ IV h')) := (wl_18 n).1 h h x1 x2 x3 x4 S (hk_r h) I
theorem wl_36 {X : aX} : ∀ n : Nat, (∀ (h0 h : aH) (x1 : Int32) (x2 : Int32), wS h → hk h0 h → IV h → Pt n X zM36 0 [some (.ref 16), some (.int x1), some (.int x2), none] [] h (qI (fun _ h' => wS h' ∧ hk h0 h' ∧ IV h'))) ∧
    (∀ (h0 h : aH) (x1 : Int32) (x2 : Int32) (x3 : Int32), wS h → hk h0 h → IV h → Pt n X zM36 2 [some (.ref 16), some (.int x1), some (.int x2), some (.int x3)] [] h (qI (fun _ h' => wS h' ∧ hk h0 h' ∧ IV h'))) := by
  intro n
  induction n with
  | zero => refine ⟨?_, ?_⟩ <;> (intros; exact pt_z)
  | succ n ih =>
    obtain ⟨ih36_0, ih36_2⟩ := ih
    refine ⟨?_, ?_⟩
    · intro h0 h x1 x2 S G I
      obtain ⟨a1, z1⟩ : ∃ a : Int, x1.toInt = a := ⟨_, rfl⟩
      obtain ⟨a2, z2⟩ : ∃ a : Int, x2.toInt = a := ⟨_, rfl⟩
      refine pt_iconst gx36_0 (fun v1001 h1001 => ?_)
      refine pt_d (pt_1 (fun n d => r_istoren (L' := [some (.ref 16), some (.int x1), some (.int x2), some (.int v1001)]) gx36_1 rfl rfl) ?_)
      exact ih36_2 h0 h x1 x2 v1001 S G I
    · intro h0 h x1 x2 x3 S G I
      obtain ⟨a1, z1⟩ : ∃ a : Int, x1.toInt = a := ⟨_, rfl⟩
      obtain ⟨a2, z2⟩ : ∃ a : Int, x2.toInt = a := ⟨_, rfl⟩
      obtain ⟨a3, z3⟩ : ∃ a : Int, x3.toInt = a := ⟨_, rfl⟩
      refine pt_1 (fun n d => r_iloadn gx36_2 rfl) ?_
      refine pt_d (pt_1 (fun n d => r_aloadn gx36_3 rfl) ?_)
      refine pt_d (pt_getI (B := 3) gx36_4 S (fun v1001 h1001 => ?_))
      refine pt_d (pt_icmp_ge gx36_7 z3 h1001 (fun e1002 => ?_) (fun e1002 => ?_))
      · skip
        refine pt_d (pt_iconst gx36_38 (fun v1003 h1003 => ?_))
        exact pt_d (pt_iret gx36_39 ⟨_, rfl, S, G, I⟩)
      · skip
        refine pt_d (pt_1 (fun n d => r_aloadn gx36_10 rfl) ?_)
        refine pt_d (pt_getR gx36_11 S tr_16_14 ?_)
        refine pt_d (pt_1 (fun n d => r_iloadn gx36_14 rfl) ?_)
        refine pt_d (pt_iald (N' := 200) gx36_15 S tl_27 z3 (fun v1005 p1005 q1005 h1005 => ?_))
        refine pt_d (pt_1 (fun n d => r_iloadn gx36_16 rfl) ?_)
        refine pt_d (pt_icmp_ne gx36_17 h1005 z1 (fun e1006 => ?_) (fun e1006 => ?_))
        · skip
          refine pt_d (pt_iinc (c := 1) gx36_32 rfl z3 (fun v1007 h1007 => ?_))
          show Pt _ _ _ _ [some (.ref 16), some (.int x1), some (.int x2), some (.int v1007)] [] _ _
          refine pt_d (pt_1 (fun n d => r_goto gx36_35) ?_)
          exact ih36_2 h0 h x1 x2 v1007 S G I
        · skip
          refine pt_d (pt_1 (fun n d => r_aloadn gx36_20 rfl) ?_)
          refine pt_d (pt_getR gx36_21 S tr_16_16 ?_)
          refine pt_d (pt_1 (fun n d => r_iloadn gx36_24 rfl) ?_)
          refine pt_d (pt_iald (N' := 200) gx36_25 S tl_29 z3 (fun v1009 p1009 q1009 h1009 => ?_))
          refine pt_d (pt_1 (fun n d => r_iloadn gx36_26 rfl) ?_)
          refine pt_d (pt_icmp_ne gx36_27 h1009 z2 (fun e1010 => ?_) (fun e1010 => ?_))
          · skip
            refine pt_d (pt_iinc (c := 1) gx36_32 rfl z3 (fun v1011 h1011 => ?_))
            show Pt _ _ _ _ [some (.ref 16), some (.int x1), some (.int x2), some (.int v1011)] [] _ _
            refine pt_d (pt_1 (fun n d => r_goto gx36_35) ?_)
            exact ih36_2 h0 h x1 x2 v1011 S G I
          · skip
            refine pt_d (pt_iconst gx36_30 (fun v1012 h1012 => ?_))
            exact pt_d (pt_iret gx36_31 ⟨_, rfl, S, G, I⟩)
theorem wk_36 {n : Nat} {X : aX} {h : aH} {x1 : Int32} {x2 : Int32} {a1 : Int} {a2 : Int} (S : wS h) (z1 : x1.toInt = a1) (z2 : x2.toInt = a2) (I : IV h) : Pt n X zM36 0 [some (.ref 16), some (.int x1), some (.int x2), none] [] h (qI (fun _ h' => wS h' ∧ hk h h' ∧ IV h')) := (wl_36 n).1 h h x1 x2 S (hk_r h) I
theorem wl_55 {X : aX} : ∀ n : Nat, (∀ (h0 h : aH) (x0 : Int32) (x1 : Int32) (q2 : Nat), wS h → hk h0 h → IV h → Pt n X zM55 0 [some (.int x0), some (.int x1), some (.ref q2), none, none] [] h (qI (fun _ h' => wS h' ∧ hk h0 h' ∧ IV h'))) ∧
    (∀ (h0 h : aH) (x0 : Int32) (x1 : Int32) (q2 : Nat) (x3 : Int32) (u4 : Option Value), wS h → hk h0 h → IV h → Pt n X zM55 2 [some (.int x0), some (.int x1), some (.ref q2), some (.int x3), u4] [] h (qI (fun _ h' => wS h' ∧ hk h0 h' ∧ IV h'))) ∧
    (∀ (h0 h : aH) (x0 : Int32) (x1 : Int32) (q2 : Nat) (x3 : Int32) (x4 : Int32), wS h → hk h0 h → IV h → Pt n X zM55 13 [some (.int x0), some (.int x1), some (.ref q2), some (.int x3), some (.int x4)] [] h (qI (fun _ h' => wS h' ∧ hk h0 h' ∧ IV h'))) := by
  intro n
  induction n with
  | zero => refine ⟨?_, ?_, ?_⟩ <;> (intros; exact pt_z)
  | succ n ih =>
    obtain ⟨ih55_0, ih55_2, ih55_13⟩ := ih
    refine ⟨?_, ?_, ?_⟩
    · intro h0 h x0 x1 q2 S G I
      obtain ⟨a0, z0⟩ : ∃ a : Int, x0.toInt = a := ⟨_, rfl⟩
      obtain ⟨a1, z1⟩ : ∃ a : Int, x1.toInt = a := ⟨_, rfl⟩
      refine pt_iconst gx55_0 (fun v1001 h1001 => ?_)
      refine pt_d (pt_1 (fun n d => r_istoren (L' := [some (.int x0), some (.int x1), some (.ref q2), some (.int v1001), none]) gx55_1 rfl rfl) ?_)
      exact ih55_2 h0 h x0 x1 q2 v1001 _ S G I
    · intro h0 h x0 x1 q2 x3 u4 S G I
      obtain ⟨a0, z0⟩ : ∃ a : Int, x0.toInt = a := ⟨_, rfl⟩
      obtain ⟨a1, z1⟩ : ∃ a : Int, x1.toInt = a := ⟨_, rfl⟩
      obtain ⟨a3, z3⟩ : ∃ a : Int, x3.toInt = a := ⟨_, rfl⟩
      refine pt_1 (fun n d => r_iloadn gx55_2 rfl) ?_
      refine pt_d (pt_1 (fun n d => r_aloadn gx55_3 rfl) ?_)
      refine pt_d (pt_getI (B := 5) gx55_4 S (fun v1001 h1001 => ?_))
      refine pt_d (pt_icmp_ge gx55_7 z3 h1001 (fun e1002 => ?_) (fun e1002 => ?_))
      · skip
        refine pt_d (pt_iconst gx55_69 (fun v1003 h1003 => ?_))
        exact pt_d (pt_iret gx55_70 ⟨_, rfl, S, G, I⟩)
      · skip
        refine pt_d (pt_iconst gx55_10 (fun v1004 h1004 => ?_))
        refine pt_d (pt_1 (fun n d => r_istore (L' := [some (.int x0), some (.int x1), some (.ref q2), some (.int x3), some (.int v1004)]) gx55_11 rfl rfl) ?_)
        exact ih55_13 h0 h x0 x1 q2 x3 v1004 S G I
    · intro h0 h x0 x1 q2 x3 x4 S G I
      obtain ⟨a0, z0⟩ : ∃ a : Int, x0.toInt = a := ⟨_, rfl⟩
      obtain ⟨a1, z1⟩ : ∃ a : Int, x1.toInt = a := ⟨_, rfl⟩
      obtain ⟨a3, z3⟩ : ∃ a : Int, x3.toInt = a := ⟨_, rfl⟩
      obtain ⟨a4, z4⟩ : ∃ a : Int, x4.toInt = a := ⟨_, rfl⟩
      refine pt_1 (fun n d => r_iload gx55_13 rfl) ?_
      refine pt_d (pt_1 (fun n d => r_aloadn gx55_15 rfl) ?_)
      refine pt_d (pt_getI (B := 5) gx55_16 S (fun v1001 h1001 => ?_))
      refine pt_d (pt_icmp_ge gx55_19 z4 h1001 (fun e1002 => ?_) (fun e1002 => ?_))
      · skip
        refine pt_d (pt_iinc (c := 1) gx55_63 rfl z3 (fun v1003 h1003 => ?_))
        show Pt _ _ _ _ [some (.int x0), some (.int x1), some (.ref q2), some (.int v1003), some (.int x4)] [] _ _
        refine pt_d (pt_1 (fun n d => r_goto gx55_66) ?_)
        exact ih55_2 h0 h x0 x1 q2 v1003 _ S G I
      · skip
        refine pt_d (pt_1 (fun n d => r_aloadn gx55_22 rfl) ?_)
        refine pt_d (pt_1 (fun n d => r_iloadn gx55_23 rfl) ?_)
        refine pt_d (pt_virt (as := [.int x3]) (r := []) gx55_24 rfl (show zmt[101]? = some zM101 from rfl) rfl rfl rfl rfl (wk_101 S z3 I) (kqI (fun v1004 y1004 h_1004 h1004 P1004 => ?_)))
        have S1004 := P1004.1
        have G1004 := hk_t G P1004.2.1
        have I1004 := P1004.2.2
        show Pt _ _ _ 27 _ [.int v1004] _ _
        refine pt_d (pt_1 (fun n d => r_iloadn gx55_27 rfl) ?_)
        refine pt_d (pt_icmp_ne gx55_28 h1004 z0 (fun e1005 => ?_) (fun e1005 => ?_))
        · skip
          refine pt_d (pt_iinc (c := 1) gx55_63 rfl z3 (fun v1006 h1006 => ?_))
          show Pt _ _ _ _ [some (.int x0), some (.int x1), some (.ref q2), some (.int v1006), some (.int x4)] [] _ _
          refine pt_d (pt_1 (fun n d => r_goto gx55_66) ?_)
          exact ih55_2 h0 h_1004 x0 x1 q2 v1006 _ S1004 G1004 I1004
        · skip
          refine pt_d (pt_1 (fun n d => r_aloadn gx55_31 rfl) ?_)
          refine pt_d (pt_1 (fun n d => r_iload gx55_32 rfl) ?_)
          refine pt_d (pt_virt (as := [.int x4]) (r := []) gx55_34 rfl (show zmt[101]? = some zM101 from rfl) rfl rfl rfl rfl (wk_101 S1004 z4 I1004) (kqI (fun v1007 y1007 h_1007 h1007 P1007 => ?_)))
          have S1007 := P1007.1
          have G1007 := hk_t G1004 P1007.2.1
          have I1007 := P1007.2.2
          show Pt _ _ _ 37 _ [.int v1007] _ _
          refine pt_d (pt_1 (fun n d => r_iloadn gx55_37 rfl) ?_)
          refine pt_d (pt_icmp_ne gx55_38 h1007 z1 (fun e1008 => ?_) (fun e1008 => ?_))
          · skip
            refine pt_d (pt_iinc (c := 1) gx55_57 rfl z4 (fun v1009 h1009 => ?_))
            show Pt _ _ _ _ [some (.int x0), some (.int x1), some (.ref q2), some (.int x3), some (.int v1009)] [] _ _
            refine pt_d (pt_1 (fun n d => r_goto gx55_60) ?_)
            exact ih55_13 h0 h_1007 x0 x1 q2 x3 v1009 S1007 G1007 I1007
          · skip
            refine pt_d (pt_1 (fun n d => r_aloadn gx55_41 rfl) ?_)
            refine pt_d (pt_1 (fun n d => r_iload gx55_42 rfl) ?_)
            refine pt_d (pt_virt (as := [.int x4]) (r := []) gx55_44 rfl (show zmt[100]? = some zM100 from rfl) rfl rfl rfl rfl (wk_100 S1007 z4 I1007) (kqI (fun v1010 y1010 h_1010 h1010 P1010 => ?_)))
            have S1010 := P1010.1
            have G1010 := hk_t G1007 P1010.2.1
            have I1010 := P1010.2.2
            show Pt _ _ _ 47 _ [.int v1010] _ _
            refine pt_d (pt_1 (fun n d => r_aloadn gx55_47 rfl) ?_)
            refine pt_d (pt_1 (fun n d => r_iloadn gx55_48 rfl) ?_)
            refine pt_d (pt_virt (as := [.int x3]) (r := [.int v1010]) gx55_49 rfl (show zmt[100]? = some zM100 from rfl) rfl rfl rfl rfl (wk_100 S1010 z3 I1010) (kqI (fun v1011 y1011 h_1011 h1011 P1011 => ?_)))
            have S1011 := P1011.1
            have G1011 := hk_t G1010 P1011.2.1
            have I1011 := P1011.2.2
            show Pt _ _ _ 52 _ [.int v1011, .int v1010] _ _
            refine pt_d (pt_icmp_eq gx55_52 h1010 h1011 (fun e1012 => ?_) (fun e1012 => ?_))
            · skip
              refine pt_d (pt_iinc (c := 1) gx55_57 rfl z4 (fun v1013 h1013 => ?_))
              show Pt _ _ _ _ [some (.int x0), some (.int x1), some (.ref q2), some (.int x3), some (.int v1013)] [] _ _
              refine pt_d (pt_1 (fun n d => r_goto gx55_60) ?_)
              exact ih55_13 h0 h_1011 x0 x1 q2 x3 v1013 S1011 G1011 I1011
            · skip
              refine pt_d (pt_iconst gx55_55 (fun v1014 h1014 => ?_))
              exact pt_d (pt_iret gx55_56 ⟨_, rfl, S1011, G1011, I1011⟩)
theorem wk_55 {n : Nat} {X : aX} {h : aH} {x0 : Int32} {x1 : Int32} {q2 : Nat} {a0 : Int} {a1 : Int} (S : wS h) (z0 : x0.toInt = a0) (z1 : x1.toInt = a1) (I : IV h) : Pt n X zM55 0 [some (.int x0), some (.int x1), some (.ref q2), none, none] [] h (qI (fun _ h' => wS h' ∧ hk h h' ∧ IV h')) := (wl_55 n).1 h h x0 x1 q2 S (hk_r h) I
theorem wl_82 {X : aX} : ∀ n : Nat, (∀ (h0 h : aH) (x1 : Int32) (x2 : Int32), wS h → hk h0 h → IV h → Pt n X zM82 0 [some (.ref 1), some (.int x1), some (.int x2)] [] h (qI (fun _ h' => wS h' ∧ hk h0 h' ∧ IV h'))) := by
  intro n
  induction n with
  | zero => refine ?_ <;> (intros; exact pt_z)
  | succ n ih =>
    have ih82_0 := ih
    refine ?_
    · intro h0 h x1 x2 S G I
      obtain ⟨a1, z1⟩ : ∃ a : Int, x1.toInt = a := ⟨_, rfl⟩
      obtain ⟨a2, z2⟩ : ∃ a : Int, x2.toInt = a := ⟨_, rfl⟩
      refine pt_1 (fun n d => r_aloadn gx82_0 rfl) ?_
      refine pt_d (pt_getR gx82_1 S tr_1_13 ?_)
      refine pt_d (pt_1 (fun n d => r_iloadn gx82_4 rfl) ?_)
      refine pt_d (pt_bipush gx82_5 (fun v1002 h1002 => ?_))
      refine pt_d (pt_imul gx82_7 z1 h1002 (fun v1003 h1003 => ?_))
      refine pt_d (pt_1 (fun n d => r_iloadn gx82_8 rfl) ?_)
      refine pt_d (pt_iadd gx82_9 h1003 z2 (fun v1004 h1004 => ?_))
      refine pt_d (pt_iald (N' := 3600) gx82_10 S tl_8 h1004 (fun v1005 p1005 q1005 h1005 => ?_))
      exact pt_d (pt_iret gx82_11 ⟨_, rfl, S, G, I⟩)
theorem wk_82 {n : Nat} {X : aX} {h : aH} {x1 : Int32} {x2 : Int32} {a1 : Int} {a2 : Int} (S : wS h) (z1 : x1.toInt = a1) (z2 : x2.toInt = a2) (I : IV h) : Pt n X zM82 0 [some (.ref 1), some (.int x1), some (.int x2)] [] h (qI (fun _ h' => wS h' ∧ hk h h' ∧ IV h')) := (wl_82 n) h h x1 x2 S (hk_r h) I
theorem wl_84 {X : aX} : ∀ n : Nat, (∀ (h0 h : aH) (x1 : Int32) (x2 : Int32), wS h → hk h0 h → IV h → Pt n X zM84 0 [some (.ref 1), some (.int x1), some (.int x2), none] [] h (qI (fun _ h' => wS h' ∧ hk h0 h' ∧ IV h'))) ∧
    (∀ (h0 h : aH) (x1 : Int32) (x2 : Int32) (x3 : Int32), wS h → hk h0 h → IV h → Pt n X zM84 2 [some (.ref 1), some (.int x1), some (.int x2), some (.int x3)] [] h (qI (fun _ h' => wS h' ∧ hk h0 h' ∧ IV h'))) := by
  intro n
  induction n with
  | zero => refine ⟨?_, ?_⟩ <;> (intros; exact pt_z)
  | succ n ih =>
    obtain ⟨ih84_0, ih84_2⟩ := ih
    refine ⟨?_, ?_⟩
    · intro h0 h x1 x2 S G I
      obtain ⟨a1, z1⟩ : ∃ a : Int, x1.toInt = a := ⟨_, rfl⟩
      obtain ⟨a2, z2⟩ : ∃ a : Int, x2.toInt = a := ⟨_, rfl⟩
      refine pt_iconst gx84_0 (fun v1001 h1001 => ?_)
      refine pt_d (pt_1 (fun n d => r_istoren (L' := [some (.ref 1), some (.int x1), some (.int x2), some (.int v1001)]) gx84_1 rfl rfl) ?_)
      exact ih84_2 h0 h x1 x2 v1001 S G I
    · intro h0 h x1 x2 x3 S G I
      obtain ⟨a1, z1⟩ : ∃ a : Int, x1.toInt = a := ⟨_, rfl⟩
      obtain ⟨a2, z2⟩ : ∃ a : Int, x2.toInt = a := ⟨_, rfl⟩
      obtain ⟨a3, z3⟩ : ∃ a : Int, x3.toInt = a := ⟨_, rfl⟩
      refine pt_1 (fun n d => r_iloadn gx84_2 rfl) ?_
      refine pt_d (pt_bipush gx84_3 (fun v1001 h1001 => ?_))
      refine pt_d (pt_icmp_ge gx84_5 z3 h1001 (fun e1002 => ?_) (fun e1002 => ?_))
      · skip
        refine pt_d (pt_iconst gx84_32 (fun v1003 h1003 => ?_))
        exact pt_d (pt_iret gx84_33 ⟨_, rfl, S, G, I⟩)
      · skip
        refine pt_d (pt_1 (fun n d => r_aloadn gx84_8 rfl) ?_)
        refine pt_d (pt_1 (fun n d => r_iloadn gx84_9 rfl) ?_)
        refine pt_d (pt_1 (fun n d => r_iloadn gx84_10 rfl) ?_)
        refine pt_d (pt_virt (as := [.int x1, .int x3]) (r := []) gx84_11 rfl (show zmt[82]? = some zM82 from rfl) rfl rfl rfl rfl (wk_82 S z1 z3 I) (kqI (fun v1004 y1004 h_1004 h1004 P1004 => ?_)))
        have S1004 := P1004.1
        have G1004 := hk_t G P1004.2.1
        have I1004 := P1004.2.2
        show Pt _ _ _ 14 _ [.int v1004] _ _
        refine pt_d (pt_1 (fun n d => r_aloadn gx84_14 rfl) ?_)
        refine pt_d (pt_1 (fun n d => r_iloadn gx84_15 rfl) ?_)
        refine pt_d (pt_1 (fun n d => r_iloadn gx84_16 rfl) ?_)
        refine pt_d (pt_virt (as := [.int x2, .int x3]) (r := [.int v1004]) gx84_17 rfl (show zmt[82]? = some zM82 from rfl) rfl rfl rfl rfl (wk_82 S1004 z2 z3 I1004) (kqI (fun v1005 y1005 h_1005 h1005 P1005 => ?_)))
        have S1005 := P1005.1
        have G1005 := hk_t G1004 P1005.2.1
        have I1005 := P1005.2.2
        show Pt _ _ _ 20 _ [.int v1005, .int v1004] _ _
        refine pt_d (pt_iand gx84_20 h1004 h1005 (fun v1006 h1006 => ?_))
        refine pt_d (pt_if_eq gx84_21 h1006 (fun e1007 => ?_) (fun e1007 => ?_))
        · skip
          refine pt_d (pt_iinc (c := 1) gx84_26 rfl z3 (fun v1008 h1008 => ?_))
          show Pt _ _ _ _ [some (.ref 1), some (.int x1), some (.int x2), some (.int v1008)] [] _ _
          refine pt_d (pt_1 (fun n d => r_goto gx84_29) ?_)
          exact ih84_2 h0 h_1005 x1 x2 v1008 S1005 G1005 I1005
        · skip
          refine pt_d (pt_iconst gx84_24 (fun v1009 h1009 => ?_))
          exact pt_d (pt_iret gx84_25 ⟨_, rfl, S1005, G1005, I1005⟩)
theorem wk_84 {n : Nat} {X : aX} {h : aH} {x1 : Int32} {x2 : Int32} {a1 : Int} {a2 : Int} (S : wS h) (z1 : x1.toInt = a1) (z2 : x2.toInt = a2) (I : IV h) : Pt n X zM84 0 [some (.ref 1), some (.int x1), some (.int x2), none] [] h (qI (fun _ h' => wS h' ∧ hk h h' ∧ IV h')) := (wl_84 n).1 h h x1 x2 S (hk_r h) I

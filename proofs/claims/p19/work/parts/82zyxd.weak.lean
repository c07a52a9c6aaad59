-- ===== weak contracts =====
theorem wl_54 {X : aX} : ∀ n : Nat, (∀ (h0 h : aH) (x1 : Int32) (x2 : Int32) (q3 : Nat), wS h → hk h0 h → IV h → Pt n X zM54 0 [some (.ref 48), some (.int x1), some (.int x2), some (.ref q3), none, none] [] h (qI (fun _ h' => wS h' ∧ hk h0 h' ∧ IV h'))) ∧
    (∀ (h0 h : aH) (x1 : Int32) (x2 : Int32) (q3 : Nat) (x4 : Int32) (x5 : Int32), wS h → hk h0 h → IV h → Pt n X zM54 6 [some (.ref 48), some (.int x1), some (.int x2), some (.ref q3), some (.int x4), some (.int x5)] [] h (qI (fun _ h' => wS h' ∧ hk h0 h' ∧ IV h'))) := by
  intro n
  induction n with
  | zero => refine ⟨?_, ?_⟩ <;> (intros; exact pt_z)
  | succ n ih =>
    obtain ⟨ih54_0, ih54_6⟩ := ih
    refine ⟨?_, ?_⟩
    · intro h0 h x1 x2 q3 S G I
      obtain ⟨a1, z1⟩ : ∃ a : Int, x1.toInt = a := ⟨_, rfl⟩
      obtain ⟨a2, z2⟩ : ∃ a : Int, x2.toInt = a := ⟨_, rfl⟩
      refine pt_iconst gx54_0 (fun v1001 h1001 => ?_)
      refine pt_d (pt_1 (fun n d => r_istore (L' := [some (.ref 48), some (.int x1), some (.int x2), some (.ref q3), some (.int v1001), none]) gx54_1 rfl rfl) ?_)
      refine pt_d (pt_iconst gx54_3 (fun v1002 h1002 => ?_))
      refine pt_d (pt_1 (fun n d => r_istore (L' := [some (.ref 48), some (.int x1), some (.int x2), some (.ref q3), some (.int v1001), some (.int v1002)]) gx54_4 rfl rfl) ?_)
      exact ih54_6 h0 h x1 x2 q3 v1001 v1002 S G I
    · intro h0 h x1 x2 q3 x4 x5 S G I
      obtain ⟨a1, z1⟩ : ∃ a : Int, x1.toInt = a := ⟨_, rfl⟩
      obtain ⟨a2, z2⟩ : ∃ a : Int, x2.toInt = a := ⟨_, rfl⟩
      obtain ⟨a4, z4⟩ : ∃ a : Int, x4.toInt = a := ⟨_, rfl⟩
      obtain ⟨a5, z5⟩ : ∃ a : Int, x5.toInt = a := ⟨_, rfl⟩
      refine pt_1 (fun n d => r_iload gx54_6 rfl) ?_
      refine pt_d (pt_1 (fun n d => r_iloadn gx54_8 rfl) ?_)
      refine pt_d (pt_icmp_ge gx54_9 z5 z2 (fun e1001 => ?_) (fun e1001 => ?_))
      · skip
        refine pt_d (pt_1 (fun n d => r_iload gx54_70 rfl) ?_)
        exact pt_d (pt_iret gx54_72 ⟨_, rfl, S, G, I⟩)
      · skip
        refine pt_d (pt_1 (fun n d => r_aloadn gx54_12 rfl) ?_)
        refine pt_d (pt_getR gx54_13 S tr_48_0 ?_)
        refine pt_d (pt_1 (fun n d => r_aloadn gx54_16 rfl) ?_)
        refine pt_d (pt_getR gx54_17 S tr_48_5 ?_)
        refine pt_d (pt_1 (fun n d => r_iloadn gx54_20 rfl) ?_)
        refine pt_d (pt_iald (N' := 10) gx54_21 S tl_50 z1 (fun v1004 p1004 q1004 h1004 => ?_))
        refine pt_d (pt_1 (fun n d => r_aloadn gx54_22 rfl) ?_)
        refine pt_d (pt_getR gx54_23 S tr_48_5 ?_)
        refine pt_d (pt_1 (fun n d => r_iload gx54_26 rfl) ?_)
        refine pt_d (pt_iald (N' := 10) gx54_28 S tl_50 z5 (fun v1006 p1006 q1006 h1006 => ?_))
        refine pt_d (pt_virt (as := [.int v1004, .int v1006]) (r := []) gx54_29 rfl (show zmt[84]? = some zM84 from rfl) rfl rfl rfl rfl (wk_84 S h1004 h1006 I) (kqI (fun v1007 y1007 h_1007 h1007 P1007 => ?_)))
        have S1007 := P1007.1
        have G1007 := hk_t G P1007.2.1
        have I1007 := P1007.2.2
        show Pt _ _ _ 32 _ [.int v1007] _ _
        refine pt_d (pt_if_eq gx54_32 h1007 (fun e1008 => ?_) (fun e1008 => ?_))
        · skip
          refine pt_d (pt_iinc (c := 1) gx54_64 rfl z5 (fun v1009 h1009 => ?_))
          show Pt _ _ _ _ [some (.ref 48), some (.int x1), some (.int x2), some (.ref q3), some (.int x4), some (.int v1009)] [] _ _
          refine pt_d (pt_1 (fun n d => r_goto gx54_67) ?_)
          exact ih54_6 h0 h_1007 x1 x2 q3 x4 v1009 S1007 G1007 I1007
        · skip
          refine pt_d (pt_1 (fun n d => r_aloadn gx54_35 rfl) ?_)
          refine pt_d (pt_getR gx54_36 S1007 tr_48_5 ?_)
          refine pt_d (pt_1 (fun n d => r_iloadn gx54_39 rfl) ?_)
          refine pt_d (pt_iald (N' := 10) gx54_40 S1007 tl_50 z1 (fun v1011 p1011 q1011 h1011 => ?_))
          refine pt_d (pt_1 (fun n d => r_aloadn gx54_41 rfl) ?_)
          refine pt_d (pt_getR gx54_42 S1007 tr_48_5 ?_)
          refine pt_d (pt_1 (fun n d => r_iload gx54_45 rfl) ?_)
          refine pt_d (pt_iald (N' := 10) gx54_47 S1007 tl_50 z5 (fun v1013 p1013 q1013 h1013 => ?_))
          refine pt_d (pt_1 (fun n d => r_aloadn gx54_48 rfl) ?_)
          refine pt_d (pt_stat (as := [.int v1011, .int v1013, .ref q3]) (r := []) gx54_49 rfl (show zmt[55]? = some zM55 from rfl) rfl rfl rfl rfl (wk_55 S1007 h1011 h1013 I1007) (kqI (fun v1014 y1014 h_1014 h1014 P1014 => ?_)))
          have S1014 := P1014.1
          have G1014 := hk_t G1007 P1014.2.1
          have I1014 := P1014.2.2
          show Pt _ _ _ 52 _ [.int v1014] _ _
          refine pt_d (pt_if_eq gx54_52 h1014 (fun e1015 => ?_) (fun e1015 => ?_))
          · skip
            refine pt_d (pt_iinc (c := 1) gx54_64 rfl z5 (fun v1016 h1016 => ?_))
            show Pt _ _ _ _ [some (.ref 48), some (.int x1), some (.int x2), some (.ref q3), some (.int x4), some (.int v1016)] [] _ _
            refine pt_d (pt_1 (fun n d => r_goto gx54_67) ?_)
            exact ih54_6 h0 h_1014 x1 x2 q3 x4 v1016 S1014 G1014 I1014
          · skip
            refine pt_d (pt_1 (fun n d => r_iload gx54_55 rfl) ?_)
            refine pt_d (pt_iconst gx54_57 (fun v1017 h1017 => ?_))
            refine pt_d (pt_1 (fun n d => r_iload gx54_58 rfl) ?_)
            refine pt_d (pt_ishl gx54_60 h1017 z5 (fun v1018 h1018 => ?_))
            refine pt_d (pt_ior gx54_61 z4 h1018 (fun v1019 h1019 => ?_))
            refine pt_d (pt_1 (fun n d => r_istore (L' := [some (.ref 48), some (.int x1), some (.int x2), some (.ref q3), some (.int v1019), some (.int x5)]) gx54_62 rfl rfl) ?_)
            refine pt_d (pt_iinc (c := 1) gx54_64 rfl z5 (fun v1020 h1020 => ?_))
            show Pt _ _ _ _ [some (.ref 48), some (.int x1), some (.int x2), some (.ref q3), some (.int v1019), some (.int v1020)] [] _ _
            refine pt_d (pt_1 (fun n d => r_goto gx54_67) ?_)
            exact ih54_6 h0 h_1014 x1 x2 q3 v1019 v1020 S1014 G1014 I1014
theorem wk_54 {n : Nat} {X : aX} {h : aH} {x1 : Int32} {x2 : Int32} {q3 : Nat} {a1 : Int} {a2 : Int} (S : wS h) (z1 : x1.toInt = a1) (z2 : x2.toInt = a2) (I : IV h) : Pt n X zM54 0 [some (.ref 48), some (.int x1), some (.int x2), some (.ref q3), none, none] [] h (qI (fun _ h' => wS h' ∧ hk h h' ∧ IV h')) := (wl_54 n).1 h h x1 x2 q3 S (hk_r h) I
theorem wl_57 {X : aX} : ∀ n : Nat, (∀ (h0 h : aH) (x1 : Int32) (x2 : Int32), wS h → hk h0 h → IV h → Pt n X zM57 0 [some (.ref 48), some (.int x1), some (.int x2), none] [] h (qI (fun _ h' => wS h' ∧ hk h0 h' ∧ IV h'))) ∧
    (∀ (h0 h : aH) (x1 : Int32) (x2 : Int32) (x3 : Int32), wS h → hk h0 h → IV h → Pt n X zM57 2 [some (.ref 48), some (.int x1), some (.int x2), some (.int x3)] [] h (qI (fun _ h' => wS h' ∧ hk h0 h' ∧ IV h'))) := by
  intro n
  induction n with
  | zero => refine ⟨?_, ?_⟩ <;> (intros; exact pt_z)
  | succ n ih =>
    obtain ⟨ih57_0, ih57_2⟩ := ih
    refine ⟨?_, ?_⟩
    · intro h0 h x1 x2 S G I
      obtain ⟨a1, z1⟩ : ∃ a : Int, x1.toInt = a := ⟨_, rfl⟩
      obtain ⟨a2, z2⟩ : ∃ a : Int, x2.toInt = a := ⟨_, rfl⟩
      refine pt_iconst gx57_0 (fun v1001 h1001 => ?_)
      refine pt_d (pt_1 (fun n d => r_istoren (L' := [some (.ref 48), some (.int x1), some (.int x2), some (.int v1001)]) gx57_1 rfl rfl) ?_)
      exact ih57_2 h0 h x1 x2 v1001 S G I
    · intro h0 h x1 x2 x3 S G I
      obtain ⟨a1, z1⟩ : ∃ a : Int, x1.toInt = a := ⟨_, rfl⟩
      obtain ⟨a2, z2⟩ : ∃ a : Int, x2.toInt = a := ⟨_, rfl⟩
      obtain ⟨a3, z3⟩ : ∃ a : Int, x3.toInt = a := ⟨_, rfl⟩
      refine pt_1 (fun n d => r_iloadn gx57_2 rfl) ?_
      refine pt_d (pt_1 (fun n d => r_iloadn gx57_3 rfl) ?_)
      refine pt_d (pt_icmp_ge gx57_4 z3 z2 (fun e1001 => ?_) (fun e1001 => ?_))
      · skip
        refine pt_d (pt_iconst gx57_36 (fun v1002 h1002 => ?_))
        exact pt_d (pt_iret gx57_37 ⟨_, rfl, S, G, I⟩)
      · skip
        refine pt_d (pt_1 (fun n d => r_iloadn gx57_7 rfl) ?_)
        refine pt_d (pt_1 (fun n d => r_iloadn gx57_8 rfl) ?_)
        refine pt_d (pt_ishr gx57_9 z1 z3 (fun v1003 h1003 => ?_))
        refine pt_d (pt_iconst gx57_10 (fun v1004 h1004 => ?_))
        refine pt_d (pt_iand gx57_11 h1003 h1004 (fun v1005 h1005 => ?_))
        refine pt_d (pt_if_ne gx57_12 h1005 (fun e1006 => ?_) (fun e1006 => ?_))
        · skip
          refine pt_d (pt_iinc (c := 1) gx57_30 rfl z3 (fun v1007 h1007 => ?_))
          show Pt _ _ _ _ [some (.ref 48), some (.int x1), some (.int x2), some (.int v1007)] [] _ _
          refine pt_d (pt_1 (fun n d => r_goto gx57_33) ?_)
          exact ih57_2 h0 h x1 x2 v1007 S G I
        · skip
          refine pt_d (pt_1 (fun n d => r_aloadn gx57_15 rfl) ?_)
          refine pt_d (pt_getR gx57_16 S tr_48_6 ?_)
          refine pt_d (pt_1 (fun n d => r_iloadn gx57_19 rfl) ?_)
          refine pt_d (pt_iald (N' := 10) gx57_20 S tl_51 z3 (fun v1009 p1009 q1009 h1009 => ?_))
          refine pt_d (pt_1 (fun n d => r_iloadn gx57_21 rfl) ?_)
          refine pt_d (pt_iconst gx57_22 (fun v1010 h1010 => ?_))
          refine pt_d (pt_ixor gx57_23 z1 h1010 (fun v1011 h1011 => ?_))
          refine pt_d (pt_iand gx57_24 h1009 h1011 (fun v1012 h1012 => ?_))
          refine pt_d (pt_if_eq gx57_25 h1012 (fun e1013 => ?_) (fun e1013 => ?_))
          · skip
            refine pt_d (pt_iinc (c := 1) gx57_30 rfl z3 (fun v1014 h1014 => ?_))
            show Pt _ _ _ _ [some (.ref 48), some (.int x1), some (.int x2), some (.int v1014)] [] _ _
            refine pt_d (pt_1 (fun n d => r_goto gx57_33) ?_)
            exact ih57_2 h0 h x1 x2 v1014 S G I
          · skip
            refine pt_d (pt_iconst gx57_28 (fun v1015 h1015 => ?_))
            exact pt_d (pt_iret gx57_29 ⟨_, rfl, S, G, I⟩)
theorem wk_57 {n : Nat} {X : aX} {h : aH} {x1 : Int32} {x2 : Int32} {a1 : Int} {a2 : Int} (S : wS h) (z1 : x1.toInt = a1) (z2 : x2.toInt = a2) (I : IV h) : Pt n X zM57 0 [some (.ref 48), some (.int x1), some (.int x2), none] [] h (qI (fun _ h' => wS h' ∧ hk h h' ∧ IV h')) := (wl_57 n).1 h h x1 x2 S (hk_r h) I
theorem wl_59 {X : aX} : ∀ n : Nat, (∀ (h0 h : aH) (x1 : Int32) (x2 : Int32), wS h → hk h0 h → IV h → Pt n X zM59 0 [some (.ref 48), some (.int x1), some (.int x2), none, none] [] h (qI (fun _ h' => wS h' ∧ hk h0 h' ∧ IV h'))) ∧
    (∀ (h0 h : aH) (x1 : Int32) (x2 : Int32) (x3 : Int32) (x4 : Int32), wS h → hk h0 h → IV h → Pt n X zM59 5 [some (.ref 48), some (.int x1), some (.int x2), some (.int x3), some (.int x4)] [] h (qI (fun _ h' => wS h' ∧ hk h0 h' ∧ IV h'))) := by
  intro n
  induction n with
  | zero => refine ⟨?_, ?_⟩ <;> (intros; exact pt_z)
  | succ n ih =>
    obtain ⟨ih59_0, ih59_5⟩ := ih
    refine ⟨?_, ?_⟩
    · intro h0 h x1 x2 S G I
      obtain ⟨a1, z1⟩ : ∃ a : Int, x1.toInt = a := ⟨_, rfl⟩
      obtain ⟨a2, z2⟩ : ∃ a : Int, x2.toInt = a := ⟨_, rfl⟩
      refine pt_iconst gx59_0 (fun v1001 h1001 => ?_)
      refine pt_d (pt_1 (fun n d => r_istoren (L' := [some (.ref 48), some (.int x1), some (.int x2), some (.int v1001), none]) gx59_1 rfl rfl) ?_)
      refine pt_d (pt_iconst gx59_2 (fun v1002 h1002 => ?_))
      refine pt_d (pt_1 (fun n d => r_istore (L' := [some (.ref 48), some (.int x1), some (.int x2), some (.int v1001), some (.int v1002)]) gx59_3 rfl rfl) ?_)
      exact ih59_5 h0 h x1 x2 v1001 v1002 S G I
    · intro h0 h x1 x2 x3 x4 S G I
      obtain ⟨a1, z1⟩ : ∃ a : Int, x1.toInt = a := ⟨_, rfl⟩
      obtain ⟨a2, z2⟩ : ∃ a : Int, x2.toInt = a := ⟨_, rfl⟩
      obtain ⟨a3, z3⟩ : ∃ a : Int, x3.toInt = a := ⟨_, rfl⟩
      obtain ⟨a4, z4⟩ : ∃ a : Int, x4.toInt = a := ⟨_, rfl⟩
      refine pt_1 (fun n d => r_iload gx59_5 rfl) ?_
      refine pt_d (pt_1 (fun n d => r_iloadn gx59_7 rfl) ?_)
      refine pt_d (pt_icmp_ge gx59_8 z4 z2 (fun e1001 => ?_) (fun e1001 => ?_))
      · skip
        refine pt_d (pt_1 (fun n d => r_iloadn gx59_42 rfl) ?_)
        exact pt_d (pt_iret gx59_43 ⟨_, rfl, S, G, I⟩)
      · skip
        refine pt_d (pt_1 (fun n d => r_iloadn gx59_11 rfl) ?_)
        refine pt_d (pt_1 (fun n d => r_iloadn gx59_12 rfl) ?_)
        refine pt_d (pt_1 (fun n d => r_iload gx59_13 rfl) ?_)
        refine pt_d (pt_ishr gx59_15 z1 z4 (fun v1002 h1002 => ?_))
        refine pt_d (pt_iconst gx59_16 (fun v1003 h1003 => ?_))
        refine pt_d (pt_iand gx59_17 h1002 h1003 (fun v1004 h1004 => ?_))
        refine pt_d (pt_1 (fun n d => r_aloadn gx59_18 rfl) ?_)
        refine pt_d (pt_getR gx59_19 S tr_48_0 ?_)
        refine pt_d (pt_getR gx59_22 S tr_1_8 ?_)
        refine pt_d (pt_1 (fun n d => r_aloadn gx59_25 rfl) ?_)
        refine pt_d (pt_getR gx59_26 S tr_48_5 ?_)
        refine pt_d (pt_1 (fun n d => r_iload gx59_29 rfl) ?_)
        refine pt_d (pt_iald (N' := 10) gx59_31 S tl_50 z4 (fun v1008 p1008 q1008 h1008 => ?_))
        refine pt_d (pt_iald (N' := 150) gx59_32 S tl_3 h1008 (fun v1009 p1009 q1009 h1009 => ?_))
        refine pt_d (pt_imul gx59_33 h1004 h1009 (fun v1010 h1010 => ?_))
        refine pt_d (pt_iadd gx59_34 z3 h1010 (fun v1011 h1011 => ?_))
        refine pt_d (pt_1 (fun n d => r_istoren (L' := [some (.ref 48), some (.int x1), some (.int x2), some (.int v1011), some (.int x4)]) gx59_35 rfl rfl) ?_)
        refine pt_d (pt_iinc (c := 1) gx59_36 rfl z4 (fun v1012 h1012 => ?_))
        show Pt _ _ _ _ [some (.ref 48), some (.int x1), some (.int x2), some (.int v1011), some (.int v1012)] [] _ _
        refine pt_d (pt_1 (fun n d => r_goto gx59_39) ?_)
        exact ih59_5 h0 h x1 x2 v1011 v1012 S G I
theorem wk_59 {n : Nat} {X : aX} {h : aH} {x1 : Int32} {x2 : Int32} {a1 : Int} {a2 : Int} (S : wS h) (z1 : x1.toInt = a1) (z2 : x2.toInt = a2) (I : IV h) : Pt n X zM59 0 [some (.ref 48), some (.int x1), some (.int x2), none, none] [] h (qI (fun _ h' => wS h' ∧ hk h h' ∧ IV h')) := (wl_59 n).1 h h x1 x2 S (hk_r h) I
theorem wl_328 {X : aX} : ∀ n : Nat, (∀ (h0 h : aH) (x0 : Int32) (x1 : Int32), wS h → hk h0 h → IV h → Pt n X zM328 0 [some (.int x0), some (.int x1)] [] h (qI (fun _ h' => wS h' ∧ hk h0 h' ∧ IV h'))) := by
  intro n
  induction n with
  | zero => refine ?_ <;> (intros; exact pt_z)
  | succ n ih =>
    have ih328_0 := ih
    refine ?_
    · intro h0 h x0 x1 S G I
      obtain ⟨a0, z0⟩ : ∃ a : Int, x0.toInt = a := ⟨_, rfl⟩
      obtain ⟨a1, z1⟩ : ∃ a : Int, x1.toInt = a := ⟨_, rfl⟩
      refine pt_1 (fun n d => r_iloadn gx328_0 rfl) ?_
      refine pt_d (pt_1 (fun n d => r_iloadn gx328_1 rfl) ?_)
      refine pt_d (pt_icmp_ge gx328_2 z0 z1 (fun e1001 => ?_) (fun e1001 => ?_))
      · skip
        refine pt_d (pt_1 (fun n d => r_iloadn gx328_9 rfl) ?_)
        refine pt_d (pt_1 (fun n d => r_iloadn gx328_10 rfl) ?_)
        refine pt_d (pt_icmp_ne gx328_11 z0 z1 (fun e1002 => ?_) (fun e1002 => ?_))
        · skip
          refine pt_d (pt_iconst gx328_18 (fun v1003 h1003 => ?_))
          exact pt_d (pt_iret gx328_19 ⟨_, rfl, S, G, I⟩)
        · skip
          refine pt_d (pt_iconst gx328_14 (fun v1004 h1004 => ?_))
          refine pt_d (pt_1 (fun n d => r_goto gx328_15) ?_)
          exact pt_d (pt_iret gx328_19 ⟨_, rfl, S, G, I⟩)
      · skip
        refine pt_d (pt_iconst gx328_5 (fun v1005 h1005 => ?_))
        refine pt_d (pt_1 (fun n d => r_goto gx328_6) ?_)
        exact pt_d (pt_iret gx328_19 ⟨_, rfl, S, G, I⟩)
theorem wk_328 {n : Nat} {X : aX} {h : aH} {x0 : Int32} {x1 : Int32} {a0 : Int} {a1 : Int} (S : wS h) (z0 : x0.toInt = a0) (z1 : x1.toInt = a1) (I : IV h) : Pt n X zM328 0 [some (.int x0), some (.int x1)] [] h (qI (fun _ h' => wS h' ∧ hk h h' ∧ IV h')) := (wl_328 n) h h x0 x1 S (hk_r h) I
theorem wl_329 {X : aX} : ∀ n : Nat, (∀ (h0 h : aH) (x0 : Int32), wS h → hk h0 h → IV h → Pt n X zM329 0 [some (.int x0)] [] h (qI (fun _ h' => wS h' ∧ hk h0 h' ∧ IV h'))) := by
  intro n
  induction n with
  | zero => refine ?_ <;> (intros; exact pt_z)
  | succ n ih =>
    have ih329_0 := ih
    refine ?_
    · intro h0 h x0 S G I
      obtain ⟨a0, z0⟩ : ∃ a : Int, x0.toInt = a := ⟨_, rfl⟩
      refine pt_1 (fun n d => r_iloadn gx329_0 rfl) ?_
      refine pt_d (pt_1 (fun n d => r_iloadn gx329_1 rfl) ?_)
      refine pt_d (pt_iconst gx329_2 (fun v1001 h1001 => ?_))
      refine pt_d (pt_iushr gx329_3 z0 h1001 (fun v1002 h1002 => ?_))
      refine pt_d (pt_ldc_w (c := 1431655765) gx329_4 rfl (fun v1003 h1003 => ?_))
      refine pt_d (pt_iand gx329_7 h1002 h1003 (fun v1004 h1004 => ?_))
      refine pt_d (pt_isub gx329_8 z0 h1004 (fun v1005 h1005 => ?_))
      refine pt_d (pt_1 (fun n d => r_istoren (L' := [some (.int v1005)]) gx329_9 rfl rfl) ?_)
      refine pt_d (pt_1 (fun n d => r_iloadn gx329_10 rfl) ?_)
      refine pt_d (pt_ldc_w (c := 858993459) gx329_11 rfl (fun v1006 h1006 => ?_))
      refine pt_d (pt_iand gx329_14 h1005 h1006 (fun v1007 h1007 => ?_))
      refine pt_d (pt_1 (fun n d => r_iloadn gx329_15 rfl) ?_)
      refine pt_d (pt_iconst gx329_16 (fun v1008 h1008 => ?_))
      refine pt_d (pt_iushr gx329_17 h1005 h1008 (fun v1009 h1009 => ?_))
      refine pt_d (pt_ldc_w (c := 858993459) gx329_18 rfl (fun v1010 h1010 => ?_))
      refine pt_d (pt_iand gx329_21 h1009 h1010 (fun v1011 h1011 => ?_))
      refine pt_d (pt_iadd gx329_22 h1007 h1011 (fun v1012 h1012 => ?_))
      refine pt_d (pt_1 (fun n d => r_istoren (L' := [some (.int v1012)]) gx329_23 rfl rfl) ?_)
      refine pt_d (pt_1 (fun n d => r_iloadn gx329_24 rfl) ?_)
      refine pt_d (pt_1 (fun n d => r_iloadn gx329_25 rfl) ?_)
      refine pt_d (pt_iconst gx329_26 (fun v1013 h1013 => ?_))
      refine pt_d (pt_iushr gx329_27 h1012 h1013 (fun v1014 h1014 => ?_))
      refine pt_d (pt_iadd gx329_28 h1012 h1014 (fun v1015 h1015 => ?_))
      refine pt_d (pt_ldc_w (c := 252645135) gx329_29 rfl (fun v1016 h1016 => ?_))
      refine pt_d (pt_iand gx329_32 h1015 h1016 (fun v1017 h1017 => ?_))
      refine pt_d (pt_1 (fun n d => r_istoren (L' := [some (.int v1017)]) gx329_33 rfl rfl) ?_)
      refine pt_d (pt_1 (fun n d => r_iloadn gx329_34 rfl) ?_)
      refine pt_d (pt_1 (fun n d => r_iloadn gx329_35 rfl) ?_)
      refine pt_d (pt_bipush gx329_36 (fun v1018 h1018 => ?_))
      refine pt_d (pt_iushr gx329_38 h1017 h1018 (fun v1019 h1019 => ?_))
      refine pt_d (pt_iadd gx329_39 h1017 h1019 (fun v1020 h1020 => ?_))
      refine pt_d (pt_1 (fun n d => r_istoren (L' := [some (.int v1020)]) gx329_40 rfl rfl) ?_)
      refine pt_d (pt_1 (fun n d => r_iloadn gx329_41 rfl) ?_)
      refine pt_d (pt_1 (fun n d => r_iloadn gx329_42 rfl) ?_)
      refine pt_d (pt_bipush gx329_43 (fun v1021 h1021 => ?_))
      refine pt_d (pt_iushr gx329_45 h1020 h1021 (fun v1022 h1022 => ?_))
      refine pt_d (pt_iadd gx329_46 h1020 h1022 (fun v1023 h1023 => ?_))
      refine pt_d (pt_1 (fun n d => r_istoren (L' := [some (.int v1023)]) gx329_47 rfl rfl) ?_)
      refine pt_d (pt_1 (fun n d => r_iloadn gx329_48 rfl) ?_)
      refine pt_d (pt_bipush gx329_49 (fun v1024 h1024 => ?_))
      refine pt_d (pt_iand gx329_51 h1023 h1024 (fun v1025 h1025 => ?_))
      exact pt_d (pt_iret gx329_52 ⟨_, rfl, S, G, I⟩)
theorem wk_329 {n : Nat} {X : aX} {h : aH} {x0 : Int32} {a0 : Int} (S : wS h) (z0 : x0.toInt = a0) (I : IV h) : Pt n X zM329 0 [some (.int x0)] [] h (qI (fun _ h' => wS h' ∧ hk h h' ∧ IV h')) := (wl_329 n) h h x0 S (hk_r h) I
theorem wl_58 {X : aX} : ∀ n : Nat, (∀ (h0 h : aH) (x1 : Int32) (x2 : Int32) (x3 : Int32), wS h → hk h0 h → IV h → Pt n X zM58 0 [some (.ref 48), some (.int x1), some (.int x2), some (.int x3), none, none, none] [] h (qI (fun _ h' => wS h' ∧ hk h0 h' ∧ IV h'))) := by
  intro n
  induction n with
  | zero => refine ?_ <;> (intros; exact pt_z)
  | succ n ih =>
    have ih58_0 := ih
    refine ?_
    · intro h0 h x1 x2 x3 S G I
      obtain ⟨a1, z1⟩ : ∃ a : Int, x1.toInt = a := ⟨_, rfl⟩
      obtain ⟨a2, z2⟩ : ∃ a : Int, x2.toInt = a := ⟨_, rfl⟩
      obtain ⟨a3, z3⟩ : ∃ a : Int, x3.toInt = a := ⟨_, rfl⟩
      refine pt_1 (fun n d => r_aloadn gx58_0 rfl) ?_
      refine pt_d (pt_1 (fun n d => r_iloadn gx58_1 rfl) ?_)
      refine pt_d (pt_1 (fun n d => r_iloadn gx58_2 rfl) ?_)
      refine pt_d (pt_virt (as := [.int x1, .int x3]) (r := []) gx58_3 rfl (show zmt[59]? = some zM59 from rfl) rfl rfl rfl rfl (wk_59 S z1 z3 I) (kqI (fun v1001 y1001 h_1001 h1001 P1001 => ?_)))
      have S1001 := P1001.1
      have G1001 := hk_t G P1001.2.1
      have I1001 := P1001.2.2
      show Pt _ _ _ 6 _ [.int v1001] _ _
      refine pt_d (pt_1 (fun n d => r_istore (L' := [some (.ref 48), some (.int x1), some (.int x2), some (.int x3), some (.int v1001), none, none]) gx58_6 rfl rfl) ?_)
      refine pt_d (pt_1 (fun n d => r_aloadn gx58_8 rfl) ?_)
      refine pt_d (pt_1 (fun n d => r_iloadn gx58_9 rfl) ?_)
      refine pt_d (pt_1 (fun n d => r_iloadn gx58_10 rfl) ?_)
      refine pt_d (pt_virt (as := [.int x2, .int x3]) (r := []) gx58_11 rfl (show zmt[59]? = some zM59 from rfl) rfl rfl rfl rfl (wk_59 S1001 z2 z3 I1001) (kqI (fun v1002 y1002 h_1002 h1002 P1002 => ?_)))
      have S1002 := P1002.1
      have G1002 := hk_t G1001 P1002.2.1
      have I1002 := P1002.2.2
      show Pt _ _ _ 14 _ [.int v1002] _ _
      refine pt_d (pt_1 (fun n d => r_istore (L' := [some (.ref 48), some (.int x1), some (.int x2), some (.int x3), some (.int v1001), some (.int v1002), none]) gx58_14 rfl rfl) ?_)
      refine pt_d (pt_1 (fun n d => r_iload gx58_16 rfl) ?_)
      refine pt_d (pt_1 (fun n d => r_iload gx58_18 rfl) ?_)
      refine pt_d (pt_icmp_eq gx58_20 h1001 h1002 (fun e1003 => ?_) (fun e1003 => ?_))
      · skip
        refine pt_d (pt_1 (fun n d => r_iloadn gx58_36 rfl) ?_)
        refine pt_d (pt_stat (as := [.int x1]) (r := []) gx58_37 rfl (show zmt[329]? = some zM329 from rfl) rfl rfl rfl rfl (wk_329 S1002 z1 I1002) (kqI (fun v1004 y1004 h_1004 h1004 P1004 => ?_)))
        have S1004 := P1004.1
        have G1004 := hk_t G1002 P1004.2.1
        have I1004 := P1004.2.2
        show Pt _ _ _ 40 _ [.int v1004] _ _
        refine pt_d (pt_1 (fun n d => r_iloadn gx58_40 rfl) ?_)
        refine pt_d (pt_stat (as := [.int x2]) (r := [.int v1004]) gx58_41 rfl (show zmt[329]? = some zM329 from rfl) rfl rfl rfl rfl (wk_329 S1004 z2 I1004) (kqI (fun v1005 y1005 h_1005 h1005 P1005 => ?_)))
        have S1005 := P1005.1
        have G1005 := hk_t G1004 P1005.2.1
        have I1005 := P1005.2.2
        show Pt _ _ _ 44 _ [.int v1005, .int v1004] _ _
        refine pt_d (pt_stat (as := [.int v1004, .int v1005]) (r := []) gx58_44 rfl (show zmt[328]? = some zM328 from rfl) rfl rfl rfl rfl (wk_328 S1005 h1004 h1005 I1005) (kqI (fun v1006 y1006 h_1006 h1006 P1006 => ?_)))
        have S1006 := P1006.1
        have G1006 := hk_t G1005 P1006.2.1
        have I1006 := P1006.2.2
        show Pt _ _ _ 47 _ [.int v1006] _ _
        refine pt_d (pt_1 (fun n d => r_istore (L' := [some (.ref 48), some (.int x1), some (.int x2), some (.int x3), some (.int v1001), some (.int v1002), some (.int v1006)]) gx58_47 rfl rfl) ?_)
        refine pt_d (pt_1 (fun n d => r_iload gx58_49 rfl) ?_)
        refine pt_d (pt_if_eq gx58_51 h1006 (fun e1007 => ?_) (fun e1007 => ?_))
        · skip
          refine pt_d (pt_1 (fun n d => r_iloadn gx58_67 rfl) ?_)
          refine pt_d (pt_1 (fun n d => r_iloadn gx58_68 rfl) ?_)
          refine pt_d (pt_icmp_ge gx58_69 z1 z2 (fun e1008 => ?_) (fun e1008 => ?_))
          · skip
            refine pt_d (pt_iconst gx58_76 (fun v1009 h1009 => ?_))
            exact pt_d (pt_iret gx58_77 ⟨_, rfl, S1006, G1006, I1006⟩)
          · skip
            refine pt_d (pt_iconst gx58_72 (fun v1010 h1010 => ?_))
            refine pt_d (pt_1 (fun n d => r_goto gx58_73) ?_)
            exact pt_d (pt_iret gx58_77 ⟨_, rfl, S1006, G1006, I1006⟩)
        · skip
          refine pt_d (pt_1 (fun n d => r_iload gx58_54 rfl) ?_)
          refine pt_d (pt_if_ge gx58_56 h1006 (fun e1011 => ?_) (fun e1011 => ?_))
          · skip
            refine pt_d (pt_iconst gx58_63 (fun v1012 h1012 => ?_))
            refine pt_d (pt_1 (fun n d => r_goto gx58_64) ?_)
            exact pt_d (pt_iret gx58_77 ⟨_, rfl, S1006, G1006, I1006⟩)
          · skip
            refine pt_d (pt_iconst gx58_59 (fun v1013 h1013 => ?_))
            refine pt_d (pt_1 (fun n d => r_goto gx58_60) ?_)
            exact pt_d (pt_iret gx58_77 ⟨_, rfl, S1006, G1006, I1006⟩)
      · skip
        refine pt_d (pt_1 (fun n d => r_iload gx58_23 rfl) ?_)
        refine pt_d (pt_1 (fun n d => r_iload gx58_25 rfl) ?_)
        refine pt_d (pt_icmp_ge gx58_27 h1001 h1002 (fun e1014 => ?_) (fun e1014 => ?_))
        · skip
          refine pt_d (pt_iconst gx58_34 (fun v1015 h1015 => ?_))
          exact pt_d (pt_iret gx58_35 ⟨_, rfl, S1002, G1002, I1002⟩)
        · skip
          refine pt_d (pt_iconst gx58_30 (fun v1016 h1016 => ?_))
          refine pt_d (pt_1 (fun n d => r_goto gx58_31) ?_)
          exact pt_d (pt_iret gx58_35 ⟨_, rfl, S1002, G1002, I1002⟩)
theorem wk_58 {n : Nat} {X : aX} {h : aH} {x1 : Int32} {x2 : Int32} {x3 : Int32} {a1 : Int} {a2 : Int} {a3 : Int} (S : wS h) (z1 : x1.toInt = a1) (z2 : x2.toInt = a2) (z3 : x3.toInt = a3) (I : IV h) : Pt n X zM58 0 [some (.ref 48), some (.int x1), some (.int x2), some (.int x3), none, none, none] [] h (qI (fun _ h' => wS h' ∧ hk h h' ∧ IV h')) := (wl_58 n) h h x1 x2 x3 S (hk_r h) I
theorem wl_56 {X : aX} : ∀ n : Nat, (∀ (h0 h : aH) (x1 : Int32), wS h → hk h0 h → IV h → Pt n X zM56 0 [some (.ref 48), some (.int x1), none, none] [] h (qI (fun _ h' => wS h' ∧ hk h0 h' ∧ IV h'))) ∧
    (∀ (h0 h : aH) (x1 : Int32) (x2 : Int32) (x3 : Int32), wS h → hk h0 h → IV h → Pt n X zM56 8 [some (.ref 48), some (.int x1), some (.int x2), some (.int x3)] [] h (qI (fun _ h' => wS h' ∧ hk h0 h' ∧ IV h'))) := by
  intro n
  induction n with
  | zero => refine ⟨?_, ?_⟩ <;> (intros; exact pt_z)
  | succ n ih =>
    obtain ⟨ih56_0, ih56_8⟩ := ih
    refine ⟨?_, ?_⟩
    · intro h0 h x1 S G I
      obtain ⟨a1, z1⟩ : ∃ a : Int, x1.toInt = a := ⟨_, rfl⟩
      refine pt_iconst gx56_0 (fun v1001 h1001 => ?_)
      refine pt_d (pt_1 (fun n d => r_iloadn gx56_1 rfl) ?_)
      refine pt_d (pt_ishl gx56_2 h1001 z1 (fun v1002 h1002 => ?_))
      refine pt_d (pt_iconst gx56_3 (fun v1003 h1003 => ?_))
      refine pt_d (pt_isub gx56_4 h1002 h1003 (fun v1004 h1004 => ?_))
      refine pt_d (pt_1 (fun n d => r_istoren (L' := [some (.ref 48), some (.int x1), some (.int v1004), none]) gx56_5 rfl rfl) ?_)
      refine pt_d (pt_iconst gx56_6 (fun v1005 h1005 => ?_))
      refine pt_d (pt_1 (fun n d => r_istoren (L' := [some (.ref 48), some (.int x1), some (.int v1004), some (.int v1005)]) gx56_7 rfl rfl) ?_)
      exact ih56_8 h0 h x1 v1004 v1005 S G I
    · intro h0 h x1 x2 x3 S G I
      obtain ⟨a1, z1⟩ : ∃ a : Int, x1.toInt = a := ⟨_, rfl⟩
      obtain ⟨a2, z2⟩ : ∃ a : Int, x2.toInt = a := ⟨_, rfl⟩
      obtain ⟨a3, z3⟩ : ∃ a : Int, x3.toInt = a := ⟨_, rfl⟩
      refine pt_1 (fun n d => r_iloadn gx56_8 rfl) ?_
      refine pt_d (pt_iconst gx56_9 (fun v1001 h1001 => ?_))
      refine pt_d (pt_1 (fun n d => r_iloadn gx56_10 rfl) ?_)
      refine pt_d (pt_ishl gx56_11 h1001 z1 (fun v1002 h1002 => ?_))
      refine pt_d (pt_icmp_ge gx56_12 z3 h1002 (fun e1003 => ?_) (fun e1003 => ?_))
      · skip
        refine pt_d (pt_1 (fun n d => r_iloadn gx56_42 rfl) ?_)
        exact pt_d (pt_iret gx56_43 ⟨_, rfl, S, G, I⟩)
      · skip
        refine pt_d (pt_1 (fun n d => r_aloadn gx56_15 rfl) ?_)
        refine pt_d (pt_1 (fun n d => r_iloadn gx56_16 rfl) ?_)
        refine pt_d (pt_1 (fun n d => r_iloadn gx56_17 rfl) ?_)
        refine pt_d (pt_virt (as := [.int x3, .int x1]) (r := []) gx56_18 rfl (show zmt[57]? = some zM57 from rfl) rfl rfl rfl rfl (wk_57 S z3 z1 I) (kqI (fun v1004 y1004 h_1004 h1004 P1004 => ?_)))
        have S1004 := P1004.1
        have G1004 := hk_t G P1004.2.1
        have I1004 := P1004.2.2
        show Pt _ _ _ 21 _ [.int v1004] _ _
        refine pt_d (pt_if_eq gx56_21 h1004 (fun e1005 => ?_) (fun e1005 => ?_))
        · skip
          refine pt_d (pt_iinc (c := 1) gx56_36 rfl z3 (fun v1006 h1006 => ?_))
          show Pt _ _ _ _ [some (.ref 48), some (.int x1), some (.int x2), some (.int v1006)] [] _ _
          refine pt_d (pt_1 (fun n d => r_goto gx56_39) ?_)
          exact ih56_8 h0 h_1004 x1 x2 v1006 S1004 G1004 I1004
        · skip
          refine pt_d (pt_1 (fun n d => r_aloadn gx56_24 rfl) ?_)
          refine pt_d (pt_1 (fun n d => r_iloadn gx56_25 rfl) ?_)
          refine pt_d (pt_1 (fun n d => r_iloadn gx56_26 rfl) ?_)
          refine pt_d (pt_1 (fun n d => r_iloadn gx56_27 rfl) ?_)
          refine pt_d (pt_virt (as := [.int x3, .int x2, .int x1]) (r := []) gx56_28 rfl (show zmt[58]? = some zM58 from rfl) rfl rfl rfl rfl (wk_58 S1004 z3 z2 z1 I1004) (kqI (fun v1007 y1007 h_1007 h1007 P1007 => ?_)))
          have S1007 := P1007.1
          have G1007 := hk_t G1004 P1007.2.1
          have I1007 := P1007.2.2
          show Pt _ _ _ 31 _ [.int v1007] _ _
          refine pt_d (pt_if_eq gx56_31 h1007 (fun e1008 => ?_) (fun e1008 => ?_))
          · skip
            refine pt_d (pt_iinc (c := 1) gx56_36 rfl z3 (fun v1009 h1009 => ?_))
            show Pt _ _ _ _ [some (.ref 48), some (.int x1), some (.int x2), some (.int v1009)] [] _ _
            refine pt_d (pt_1 (fun n d => r_goto gx56_39) ?_)
            exact ih56_8 h0 h_1007 x1 x2 v1009 S1007 G1007 I1007
          · skip
            refine pt_d (pt_1 (fun n d => r_iloadn gx56_34 rfl) ?_)
            refine pt_d (pt_1 (fun n d => r_istoren (L' := [some (.ref 48), some (.int x1), some (.int x3), some (.int x3)]) gx56_35 rfl rfl) ?_)
            refine pt_d (pt_iinc (c := 1) gx56_36 rfl z3 (fun v1010 h1010 => ?_))
            show Pt _ _ _ _ [some (.ref 48), some (.int x1), some (.int x3), some (.int v1010)] [] _ _
            refine pt_d (pt_1 (fun n d => r_goto gx56_39) ?_)
            exact ih56_8 h0 h_1007 x1 x3 v1010 S1007 G1007 I1007
theorem wk_56 {n : Nat} {X : aX} {h : aH} {x1 : Int32} {a1 : Int} (S : wS h) (z1 : x1.toInt = a1) (I : IV h) : Pt n X zM56 0 [some (.ref 48), some (.int x1), none, none] [] h (qI (fun _ h' => wS h' ∧ hk h h' ∧ IV h')) := (wl_56 n).1 h h x1 S (hk_r h) I
theorem wl_60 {X : aX} : ∀ n : Nat, (∀ (h0 h : aH) (x1 : Int32) (x2 : Int32), wS h → hk h0 h → IV h → Pt n X zM60 0 [some (.ref 48), some (.int x1), some (.int x2), none] [] h (qI (fun _ h' => wS h' ∧ hk h0 h' ∧ IV h'))) ∧
    (∀ (h0 h : aH) (x1 : Int32) (x2 : Int32) (x3 : Int32), wS h → hk h0 h → IV h → Pt n X zM60 7 [some (.ref 48), some (.int x1), some (.int x2), some (.int x3)] [] h (qI (fun _ h' => wS h' ∧ hk h0 h' ∧ IV h'))) := by
  intro n
  induction n with
  | zero => refine ⟨?_, ?_⟩ <;> (intros; exact pt_z)
  | succ n ih =>
    obtain ⟨ih60_0, ih60_7⟩ := ih
    refine ⟨?_, ?_⟩
    · intro h0 h x1 x2 S G I
      obtain ⟨a1, z1⟩ : ∃ a : Int, x1.toInt = a := ⟨_, rfl⟩
      obtain ⟨a2, z2⟩ : ∃ a : Int, x2.toInt = a := ⟨_, rfl⟩
      refine pt_1 (fun n d => r_aloadn gx60_0 rfl) ?_
      refine pt_d (pt_iconst gx60_1 (fun v1001 h1001 => ?_))
      refine pt_d (pt_putIh (B := 4) gx60_2 S h1001 (fun h_1002 S1002 e1002 K1002 => ?_))
      have G1002 := hk_t G K1002
      have I1002 := IV_uf I K1002 e1002 (by decide)
      refine pt_d (pt_iconst gx60_5 (fun v1003 h1003 => ?_))
      refine pt_d (pt_1 (fun n d => r_istoren (L' := [some (.ref 48), some (.int x1), some (.int x2), some (.int v1003)]) gx60_6 rfl rfl) ?_)
      exact ih60_7 h0 h_1002 x1 x2 v1003 S1002 G1002 I1002
    · intro h0 h x1 x2 x3 S G I
      obtain ⟨a1, z1⟩ : ∃ a : Int, x1.toInt = a := ⟨_, rfl⟩
      obtain ⟨a2, z2⟩ : ∃ a : Int, x2.toInt = a := ⟨_, rfl⟩
      obtain ⟨a3, z3⟩ : ∃ a : Int, x3.toInt = a := ⟨_, rfl⟩
      refine pt_1 (fun n d => r_iloadn gx60_7 rfl) ?_
      refine pt_d (pt_1 (fun n d => r_iloadn gx60_8 rfl) ?_)
      refine pt_d (pt_icmp_ge gx60_9 z3 z2 (fun e1001 => ?_) (fun e1001 => ?_))
      · skip
        refine pt_d (pt_1 (fun n d => r_aloadn gx60_52 rfl) ?_)
        refine pt_d (pt_1 (fun n d => r_iloadn gx60_53 rfl) ?_)
        refine pt_d (pt_1 (fun n d => r_iloadn gx60_54 rfl) ?_)
        refine pt_d (pt_virt (as := [.int x1, .int x2]) (r := []) gx60_55 rfl (show zmt[59]? = some zM59 from rfl) rfl rfl rfl rfl (wk_59 S z1 z2 I) (kqI (fun v1002 y1002 h_1002 h1002 P1002 => ?_)))
        have S1002 := P1002.1
        have G1002 := hk_t G P1002.2.1
        have I1002 := P1002.2.2
        show Pt _ _ _ 58 _ [.int v1002] _ _
        exact pt_d (pt_iret gx60_58 ⟨_, rfl, S1002, G1002, I1002⟩)
      · skip
        refine pt_d (pt_1 (fun n d => r_iloadn gx60_12 rfl) ?_)
        refine pt_d (pt_1 (fun n d => r_iloadn gx60_13 rfl) ?_)
        refine pt_d (pt_ishr gx60_14 z1 z3 (fun v1003 h1003 => ?_))
        refine pt_d (pt_iconst gx60_15 (fun v1004 h1004 => ?_))
        refine pt_d (pt_iand gx60_16 h1003 h1004 (fun v1005 h1005 => ?_))
        refine pt_d (pt_iconst gx60_17 (fun v1006 h1006 => ?_))
        refine pt_d (pt_icmp_ne gx60_18 h1005 h1006 (fun e1007 => ?_) (fun e1007 => ?_))
        · skip
          refine pt_d (pt_iinc (c := 1) gx60_46 rfl z3 (fun v1008 h1008 => ?_))
          show Pt _ _ _ _ [some (.ref 48), some (.int x1), some (.int x2), some (.int v1008)] [] _ _
          refine pt_d (pt_1 (fun n d => r_goto gx60_49) ?_)
          exact ih60_7 h0 h x1 x2 v1008 S G I
        · skip
          refine pt_d (pt_1 (fun n d => r_aloadn gx60_21 rfl) ?_)
          refine pt_d (pt_getR gx60_22 S tr_48_3 ?_)
          refine pt_d (pt_1 (fun n d => r_aloadn gx60_25 rfl) ?_)
          refine pt_d (pt_getI (B := 4) gx60_26 S (fun v1010 h1010 => ?_))
          refine pt_d (pt_1 (fun n d => r_aloadn gx60_29 rfl) ?_)
          refine pt_d (pt_getR gx60_30 S tr_48_5 ?_)
          refine pt_d (pt_1 (fun n d => r_iloadn gx60_33 rfl) ?_)
          refine pt_d (pt_iald (N' := 10) gx60_34 S tl_50 z3 (fun v1012 p1012 q1012 h1012 => ?_))
          refine pt_d (pt_iasth (N' := 10) gx60_35 S tl_49 h1010 h1012 (fun h_1013 S1013 p1013 q1013 e1013 K1013 => ?_))
          have G1013 := hk_t G K1013
          have I1013 := IV_ua I K1013 e1013 (by decide)
          refine pt_d (pt_1 (fun n d => r_aloadn gx60_36 rfl) ?_)
          refine pt_d (pt_1 (fun n d => r_dup gx60_37 rfl) ?_)
          refine pt_d (pt_getI (B := 4) gx60_38 S1013 (fun v1014 h1014 => ?_))
          have h1014 : v1014.toInt = vw h 48 4 := by rw [h1014, e1013, up_c (by decide)]
          refine pt_d (pt_iconst gx60_41 (fun v1015 h1015 => ?_))
          refine pt_d (pt_iadd gx60_42 h1014 h1015 (fun v1016 h1016 => ?_))
          refine pt_d (pt_putIh (B := 4) gx60_43 S1013 h1016 (fun h_1017 S1017 e1017 K1017 => ?_))
          have G1017 := hk_t G1013 K1017
          have I1017 := IV_uf I1013 K1017 e1017 (by decide)
          refine pt_d (pt_iinc (c := 1) gx60_46 rfl z3 (fun v1018 h1018 => ?_))
          show Pt _ _ _ _ [some (.ref 48), some (.int x1), some (.int x2), some (.int v1018)] [] _ _
          refine pt_d (pt_1 (fun n d => r_goto gx60_49) ?_)
          exact ih60_7 h0 h_1017 x1 x2 v1018 S1017 G1017 I1017
theorem wk_60 {n : Nat} {X : aX} {h : aH} {x1 : Int32} {x2 : Int32} {a1 : Int} {a2 : Int} (S : wS h) (z1 : x1.toInt = a1) (z2 : x2.toInt = a2) (I : IV h) : Pt n X zM60 0 [some (.ref 48), some (.int x1), some (.int x2), none] [] h (qI (fun _ h' => wS h' ∧ hk h h' ∧ IV h')) := (wl_60 n).1 h h x1 x2 S (hk_r h) I
theorem wl_83 {X : aX} : ∀ n : Nat, (∀ (h0 h : aH) (x1 : Int32) (q2 : Nat), wS h → hk h0 h → IV h → Pt n X zM83 0 [some (.ref 1), some (.int x1), some (.ref q2), none, none] [] h (qI (fun _ h' => wS h' ∧ hk h0 h' ∧ IV h'))) ∧
    (∀ (h0 h : aH) (x1 : Int32) (q2 : Nat) (x3 : Int32) (x4 : Int32), wS h → hk h0 h → IV h → Pt n X zM83 5 [some (.ref 1), some (.int x1), some (.ref q2), some (.int x3), some (.int x4)] [] h (qI (fun _ h' => wS h' ∧ hk h0 h' ∧ IV h'))) := by
  intro n
  induction n with
  | zero => refine ⟨?_, ?_⟩ <;> (intros; exact pt_z)
  | succ n ih =>
    obtain ⟨ih83_0, ih83_5⟩ := ih
    refine ⟨?_, ?_⟩
    · intro h0 h x1 q2 S G I
      obtain ⟨a1, z1⟩ : ∃ a : Int, x1.toInt = a := ⟨_, rfl⟩
      refine pt_iconst gx83_0 (fun v1001 h1001 => ?_)
      refine pt_d (pt_1 (fun n d => r_istoren (L' := [some (.ref 1), some (.int x1), some (.ref q2), some (.int v1001), none]) gx83_1 rfl rfl) ?_)
      refine pt_d (pt_iconst gx83_2 (fun v1002 h1002 => ?_))
      refine pt_d (pt_1 (fun n d => r_istore (L' := [some (.ref 1), some (.int x1), some (.ref q2), some (.int v1001), some (.int v1002)]) gx83_3 rfl rfl) ?_)
      exact ih83_5 h0 h x1 q2 v1001 v1002 S G I
    · intro h0 h x1 q2 x3 x4 S G I
      obtain ⟨a1, z1⟩ : ∃ a : Int, x1.toInt = a := ⟨_, rfl⟩
      obtain ⟨a3, z3⟩ : ∃ a : Int, x3.toInt = a := ⟨_, rfl⟩
      obtain ⟨a4, z4⟩ : ∃ a : Int, x4.toInt = a := ⟨_, rfl⟩
      refine pt_1 (fun n d => r_iload gx83_5 rfl) ?_
      refine pt_d (pt_bipush gx83_7 (fun v1001 h1001 => ?_))
      refine pt_d (pt_icmp_ge gx83_9 z4 h1001 (fun e1002 => ?_) (fun e1002 => ?_))
      · skip
        refine pt_d (pt_1 (fun n d => r_iloadn gx83_36 rfl) ?_)
        exact pt_d (pt_iret gx83_37 ⟨_, rfl, S, G, I⟩)
      · skip
        refine pt_d (pt_1 (fun n d => r_iloadn gx83_12 rfl) ?_)
        refine pt_d (pt_1 (fun n d => r_aloadn gx83_13 rfl) ?_)
        refine pt_d (pt_1 (fun n d => r_iloadn gx83_14 rfl) ?_)
        refine pt_d (pt_1 (fun n d => r_iload gx83_15 rfl) ?_)
        refine pt_d (pt_virt (as := [.int x1, .int x4]) (r := [.int x3]) gx83_17 rfl (show zmt[82]? = some zM82 from rfl) rfl rfl rfl rfl (wk_82 S z1 z4 I) (kqI (fun v1003 y1003 h_1003 h1003 P1003 => ?_)))
        have S1003 := P1003.1
        have G1003 := hk_t G P1003.2.1
        have I1003 := P1003.2.2
        show Pt _ _ _ 20 _ [.int v1003, .int x3] _ _
        refine pt_d (pt_1 (fun n d => r_aloadn gx83_20 rfl) ?_)
        refine pt_d (pt_1 (fun n d => r_iload gx83_21 rfl) ?_)
        refine pt_d (pt_ialdD gx83_23 z4 (fun v1004 p1004 h1004 => ?_))
        refine pt_d (pt_iand gx83_24 h1003 h1004 (fun v1005 h1005 => ?_))
        refine pt_d (pt_stat (as := [.int v1005]) (r := [.int x3]) gx83_25 rfl (show zmt[329]? = some zM329 from rfl) rfl rfl rfl rfl (wk_329 S1003 h1005 I1003) (kqI (fun v1006 y1006 h_1006 h1006 P1006 => ?_)))
        have S1006 := P1006.1
        have G1006 := hk_t G1003 P1006.2.1
        have I1006 := P1006.2.2
        show Pt _ _ _ 28 _ [.int v1006, .int x3] _ _
        refine pt_d (pt_iadd gx83_28 z3 h1006 (fun v1007 h1007 => ?_))
        refine pt_d (pt_1 (fun n d => r_istoren (L' := [some (.ref 1), some (.int x1), some (.ref q2), some (.int v1007), some (.int x4)]) gx83_29 rfl rfl) ?_)
        refine pt_d (pt_iinc (c := 1) gx83_30 rfl z4 (fun v1008 h1008 => ?_))
        show Pt _ _ _ _ [some (.ref 1), some (.int x1), some (.ref q2), some (.int v1007), some (.int v1008)] [] _ _
        refine pt_d (pt_1 (fun n d => r_goto gx83_33) ?_)
        exact ih83_5 h0 h_1006 x1 q2 v1007 v1008 S1006 G1006 I1006
theorem wk_83 {n : Nat} {X : aX} {h : aH} {x1 : Int32} {q2 : Nat} {a1 : Int} (S : wS h) (z1 : x1.toInt = a1) (I : IV h) : Pt n X zM83 0 [some (.ref 1), some (.int x1), some (.ref q2), none, none] [] h (qI (fun _ h' => wS h' ∧ hk h h' ∧ IV h')) := (wl_83 n).1 h h x1 q2 S (hk_r h) I
theorem wn_83 {n : Nat} {X : aX} {h : aH} {x1 : Int32} {a1 : Int} (S : wS h) (z1 : x1.toInt = a1) (I : IV h) : Pt n X zM83 0 [some (.ref 1), some (.int x1), some .null, none, none] [] h (qI (fun _ h' => wS h' ∧ hk h h' ∧ IV h')) := by
  have G := hk_r h
  cases n with
  | zero => exact pt_z
  | succ n =>
    refine pt_iconst gx83_0 (fun v1001 h1001 => ?_)
    refine pt_d (pt_1 (fun n d => r_istoren (L' := [some (.ref 1), some (.int x1), some (.null), some (.int v1001), none]) gx83_1 rfl rfl) ?_)
    refine pt_d (pt_iconst gx83_2 (fun v1002 h1002 => ?_))
    refine pt_d (pt_1 (fun n d => r_istore (L' := [some (.ref 1), some (.int x1), some (.null), some (.int v1001), some (.int v1002)]) gx83_3 rfl rfl) ?_)
    refine pt_d (pt_1 (fun n d => r_iload gx83_5 rfl) ?_)
    refine pt_d (pt_bipush gx83_7 (fun v1003 h1003 => ?_))
    refine pt_d (pt_icmp_ge gx83_9 h1002 h1003 (fun e1004 => absurd e1004 (by decide)) (fun e1004 => ?_))
    refine pt_d (pt_1 (fun n d => r_iloadn gx83_12 rfl) ?_)
    refine pt_d (pt_1 (fun n d => r_aloadn gx83_13 rfl) ?_)
    refine pt_d (pt_1 (fun n d => r_iloadn gx83_14 rfl) ?_)
    refine pt_d (pt_1 (fun n d => r_iload gx83_15 rfl) ?_)
    refine pt_d (pt_virt (as := [.int x1, .int v1002]) (r := [.int v1001]) gx83_17 rfl (show zmt[82]? = some zM82 from rfl) rfl rfl rfl rfl (wk_82 S z1 h1002 I) (kqI (fun v1005 y1005 h_1005 h1005 P1005 => ?_)))
    have S1005 := P1005.1
    have G1005 := hk_t G P1005.2.1
    have I1005 := P1005.2.2
    show Pt _ _ _ 20 _ [.int v1005, .int v1001] _ _
    refine pt_d (pt_1 (fun n d => r_aloadnN gx83_20 rfl) ?_)
    refine pt_d (pt_1 (fun n d => r_iload gx83_21 rfl) ?_)
    exact pt_d (pt_ialdN gx83_23)
theorem wl_99 {X : aX} : ∀ n : Nat, (∀ (h0 h : aH) (q0 : Nat) (x1 : Int32), wS h → hk h0 h → IV h → Pt n X zM99 0 [some (.ref q0), some (.int x1), none] [] h (qI (fun _ h' => wS h' ∧ hk h0 h' ∧ IV h'))) ∧
    (∀ (h0 h : aH) (q0 : Nat) (x1 : Int32) (x2 : Int32), wS h → hk h0 h → IV h → Pt n X zM99 2 [some (.ref q0), some (.int x1), some (.int x2)] [] h (qI (fun _ h' => wS h' ∧ hk h0 h' ∧ IV h'))) := by
  intro n
  induction n with
  | zero => refine ⟨?_, ?_⟩ <;> (intros; exact pt_z)
  | succ n ih =>
    obtain ⟨ih99_0, ih99_2⟩ := ih
    refine ⟨?_, ?_⟩
    · intro h0 h q0 x1 S G I
      obtain ⟨a1, z1⟩ : ∃ a : Int, x1.toInt = a := ⟨_, rfl⟩
      refine pt_iconst gx99_0 (fun v1001 h1001 => ?_)
      refine pt_d (pt_1 (fun n d => r_istoren (L' := [some (.ref q0), some (.int x1), some (.int v1001)]) gx99_1 rfl rfl) ?_)
      exact ih99_2 h0 h q0 x1 v1001 S G I
    · intro h0 h q0 x1 x2 S G I
      obtain ⟨a1, z1⟩ : ∃ a : Int, x1.toInt = a := ⟨_, rfl⟩
      obtain ⟨a2, z2⟩ : ∃ a : Int, x2.toInt = a := ⟨_, rfl⟩
      refine pt_1 (fun n d => r_iloadn gx99_2 rfl) ?_
      refine pt_d (pt_1 (fun n d => r_aloadn gx99_3 rfl) ?_)
      refine pt_d (pt_getI (B := 5) gx99_4 S (fun v1001 h1001 => ?_))
      refine pt_d (pt_icmp_ge gx99_7 z2 h1001 (fun e1002 => ?_) (fun e1002 => ?_))
      · skip
        refine pt_d (pt_iconst gx99_27 (fun v1003 h1003 => ?_))
        exact pt_d (pt_iret gx99_28 ⟨_, rfl, S, G, I⟩)
      · skip
        refine pt_d (pt_1 (fun n d => r_aloadn gx99_10 rfl) ?_)
        refine pt_d (pt_1 (fun n d => r_iloadn gx99_11 rfl) ?_)
        refine pt_d (pt_virt (as := [.int x2]) (r := []) gx99_12 rfl (show zmt[101]? = some zM101 from rfl) rfl rfl rfl rfl (wk_101 S z2 I) (kqI (fun v1004 y1004 h_1004 h1004 P1004 => ?_)))
        have S1004 := P1004.1
        have G1004 := hk_t G P1004.2.1
        have I1004 := P1004.2.2
        show Pt _ _ _ 15 _ [.int v1004] _ _
        refine pt_d (pt_1 (fun n d => r_iloadn gx99_15 rfl) ?_)
        refine pt_d (pt_icmp_ne gx99_16 h1004 z1 (fun e1005 => ?_) (fun e1005 => ?_))
        · skip
          refine pt_d (pt_iinc (c := 1) gx99_21 rfl z2 (fun v1006 h1006 => ?_))
          show Pt _ _ _ _ [some (.ref q0), some (.int x1), some (.int v1006)] [] _ _
          refine pt_d (pt_1 (fun n d => r_goto gx99_24) ?_)
          exact ih99_2 h0 h_1004 q0 x1 v1006 S1004 G1004 I1004
        · skip
          refine pt_d (pt_iconst gx99_19 (fun v1007 h1007 => ?_))
          exact pt_d (pt_iret gx99_20 ⟨_, rfl, S1004, G1004, I1004⟩)
theorem wk_99 {n : Nat} {X : aX} {h : aH} {q0 : Nat} {x1 : Int32} {a1 : Int} (S : wS h) (z1 : x1.toInt = a1) (I : IV h) : Pt n X zM99 0 [some (.ref q0), some (.int x1), none] [] h (qI (fun _ h' => wS h' ∧ hk h h' ∧ IV h')) := (wl_99 n).1 h h q0 x1 S (hk_r h) I
theorem wl_53 {X : aX} : ∀ n : Nat, (∀ (h0 h : aH) (q1 : Nat), wS h → hk h0 h → IV h → Pt n X zM53 0 [some (.ref 48), some (.ref q1), none, none] [] h (qI (fun _ h' => wS h' ∧ hk h0 h' ∧ IV h'))) ∧
    (∀ (h0 h : aH) (q1 : Nat) (x2 : Int32) (x3 : Int32), wS h → hk h0 h → IV h → Pt n X zM53 4 [some (.ref 48), some (.ref q1), some (.int x2), some (.int x3)] [] h (qI (fun _ h' => wS h' ∧ hk h0 h' ∧ IV h'))) ∧
    (∀ (h0 h : aH) (q1 : Nat) (x2 : Int32) (x3 : Int32), wS h → hk h0 h → IV h → Pt n X zM53 68 [some (.ref 48), some (.ref q1), some (.int x2), some (.int x3)] [] h (qI (fun _ h' => wS h' ∧ hk h0 h' ∧ IV h'))) ∧
    (∀ (h0 h : aH) (q1 : Nat) (x2 : Int32) (x3 : Int32), wS h → hk h0 h → IV h → Pt n X zM53 76 [some (.ref 48), some (.ref q1), some (.int x2), some (.int x3)] [] h (qI (fun _ h' => wS h' ∧ hk h0 h' ∧ IV h'))) := by
  intro n
  induction n with
  | zero => refine ⟨?_, ?_, ?_, ?_⟩ <;> (intros; exact pt_z)
  | succ n ih =>
    obtain ⟨ih53_0, ih53_4, ih53_68, ih53_76⟩ := ih
    refine ⟨?_, ?_, ?_, ?_⟩
    · intro h0 h q1 S G I
      refine pt_iconst gx53_0 (fun v1001 h1001 => ?_)
      refine pt_d (pt_1 (fun n d => r_istoren (L' := [some (.ref 48), some (.ref q1), some (.int v1001), none]) gx53_1 rfl rfl) ?_)
      refine pt_d (pt_iconst gx53_2 (fun v1002 h1002 => ?_))
      refine pt_d (pt_1 (fun n d => r_istoren (L' := [some (.ref 48), some (.ref q1), some (.int v1001), some (.int v1002)]) gx53_3 rfl rfl) ?_)
      exact ih53_4 h0 h q1 v1001 v1002 S G I
    · intro h0 h q1 x2 x3 S G I
      obtain ⟨a2, z2⟩ : ∃ a : Int, x2.toInt = a := ⟨_, rfl⟩
      obtain ⟨a3, z3⟩ : ∃ a : Int, x3.toInt = a := ⟨_, rfl⟩
      refine pt_1 (fun n d => r_iloadn gx53_4 rfl) ?_
      refine pt_d (pt_1 (fun n d => r_aloadn gx53_5 rfl) ?_)
      refine pt_d (pt_getR gx53_6 S tr_48_0 ?_)
      refine pt_d (pt_getI (B := 1) gx53_9 S (fun v1002 h1002 => ?_))
      refine pt_d (pt_icmp_ge gx53_12 z3 h1002 (fun e1003 => ?_) (fun e1003 => ?_))
      · skip
        refine pt_d (pt_iconst gx53_74 (fun v1004 h1004 => ?_))
        refine pt_d (pt_1 (fun n d => r_istoren (L' := [some (.ref 48), some (.ref q1), some (.int x2), some (.int v1004)]) gx53_75 rfl rfl) ?_)
        exact ih53_76 h0 h q1 x2 v1004 S G I
      · skip
        refine pt_d (pt_1 (fun n d => r_aloadn gx53_15 rfl) ?_)
        refine pt_d (pt_getR gx53_16 S tr_48_0 ?_)
        refine pt_d (pt_1 (fun n d => r_iloadn gx53_19 rfl) ?_)
        refine pt_d (pt_virt (as := [.int x3]) (r := []) gx53_20 rfl (show zmt[77]? = some zM77 from rfl) rfl rfl rfl rfl (c_77 S z3) (kqP (fun v1006 h1006 => ?_)))
        show Pt _ _ _ 23 _ [.int v1006] _ _
        refine pt_d (pt_ifB_eq gx53_23 h1006 (fun e1007 => ?_) (fun e1007 => ?_))
        · skip
          exact ih53_68 h0 h q1 x2 x3 S G I
        · skip
          refine pt_d (pt_1 (fun n d => r_aloadn gx53_26 rfl) ?_)
          refine pt_d (pt_1 (fun n d => r_iloadn gx53_27 rfl) ?_)
          refine pt_d (pt_virt (as := [.int x3]) (r := []) gx53_28 rfl (show zmt[99]? = some zM99 from rfl) rfl rfl rfl rfl (wk_99 S z3 I) (kqI (fun v1008 y1008 h_1008 h1008 P1008 => ?_)))
          have S1008 := P1008.1
          have G1008 := hk_t G P1008.2.1
          have I1008 := P1008.2.2
          show Pt _ _ _ 31 _ [.int v1008] _ _
          refine pt_d (pt_if_eq gx53_31 h1008 (fun e1009 => ?_) (fun e1009 => ?_))
          · skip
            exact ih53_68 h0 h_1008 q1 x2 x3 S1008 G1008 I1008
          · skip
            refine pt_d (pt_1 (fun n d => r_aloadn gx53_34 rfl) ?_)
            refine pt_d (pt_getR gx53_35 S1008 tr_48_0 ?_)
            refine pt_d (pt_1 (fun n d => r_iloadn gx53_38 rfl) ?_)
            refine pt_d (pt_1 (fun n d => r_aloadn gx53_39 rfl) ?_)
            refine pt_d (pt_getD (B := 9) gx53_40 S1008 (fun k1011 => ?_) (fun q1011 k1011 => ?_))
            · skip
              refine pt_d (pt_virt (as := [.int x3, .null]) (r := []) gx53_43 rfl (show zmt[83]? = some zM83 from rfl) rfl rfl rfl rfl (wn_83 S1008 z3 I1008) (kqI (fun v1012 y1012 h_1012 h1012 P1012 => ?_)))
              have S1012 := P1012.1
              have G1012 := hk_t G1008 P1012.2.1
              have I1012 := P1012.2.2
              show Pt _ _ _ 46 _ [.int v1012] _ _
              refine pt_d (pt_if_le gx53_46 h1012 (fun e1013 => ?_) (fun e1013 => ?_))
              · skip
                exact ih53_68 h0 h_1012 q1 x2 x3 S1012 G1012 I1012
              · skip
                refine pt_d (pt_1 (fun n d => r_iloadn gx53_49 rfl) ?_)
                refine pt_d (pt_bipush gx53_50 (fun v1014 h1014 => ?_))
                refine pt_d (pt_icmp_lt gx53_52 z2 h1014 (fun e1015 => ?_) (fun e1015 => ?_))
                · skip
                  refine pt_d (pt_1 (fun n d => r_aloadn gx53_58 rfl) ?_)
                  refine pt_d (pt_getR gx53_59 S1012 tr_48_5 ?_)
                  refine pt_d (pt_1 (fun n d => r_iloadn gx53_62 rfl) ?_)
                  refine pt_d (pt_1 (fun n d => r_iloadn gx53_63 rfl) ?_)
                  refine pt_d (pt_iasth (N' := 10) gx53_64 S1012 tl_50 z2 z3 (fun h_1017 S1017 p1017 q1017 e1017 K1017 => ?_))
                  have G1017 := hk_t G1012 K1017
                  have I1017 := IV_ua I1012 K1017 e1017 (by decide)
                  refine pt_d (pt_iinc (c := 1) gx53_65 rfl z2 (fun v1018 h1018 => ?_))
                  show Pt _ _ _ _ [some (.ref 48), some (.ref q1), some (.int v1018), some (.int x3)] [] _ _
                  exact ih53_68 h0 h_1017 q1 v1018 x3 S1017 G1017 I1017
                · skip
                  refine pt_d (pt_bipush gx53_55 (fun v1019 h1019 => ?_))
                  exact pt_d (pt_iret gx53_57 ⟨_, rfl, S1012, G1012, I1012⟩)
            · skip
              refine pt_d (pt_virt (as := [.int x3, .ref q1011]) (r := []) gx53_43 rfl (show zmt[83]? = some zM83 from rfl) rfl rfl rfl rfl (wk_83 S1008 z3 I1008) (kqI (fun v1020 y1020 h_1020 h1020 P1020 => ?_)))
              have S1020 := P1020.1
              have G1020 := hk_t G1008 P1020.2.1
              have I1020 := P1020.2.2
              show Pt _ _ _ 46 _ [.int v1020] _ _
              refine pt_d (pt_if_le gx53_46 h1020 (fun e1021 => ?_) (fun e1021 => ?_))
              · skip
                exact ih53_68 h0 h_1020 q1 x2 x3 S1020 G1020 I1020
              · skip
                refine pt_d (pt_1 (fun n d => r_iloadn gx53_49 rfl) ?_)
                refine pt_d (pt_bipush gx53_50 (fun v1022 h1022 => ?_))
                refine pt_d (pt_icmp_lt gx53_52 z2 h1022 (fun e1023 => ?_) (fun e1023 => ?_))
                · skip
                  refine pt_d (pt_1 (fun n d => r_aloadn gx53_58 rfl) ?_)
                  refine pt_d (pt_getR gx53_59 S1020 tr_48_5 ?_)
                  refine pt_d (pt_1 (fun n d => r_iloadn gx53_62 rfl) ?_)
                  refine pt_d (pt_1 (fun n d => r_iloadn gx53_63 rfl) ?_)
                  refine pt_d (pt_iasth (N' := 10) gx53_64 S1020 tl_50 z2 z3 (fun h_1025 S1025 p1025 q1025 e1025 K1025 => ?_))
                  have G1025 := hk_t G1020 K1025
                  have I1025 := IV_ua I1020 K1025 e1025 (by decide)
                  refine pt_d (pt_iinc (c := 1) gx53_65 rfl z2 (fun v1026 h1026 => ?_))
                  show Pt _ _ _ _ [some (.ref 48), some (.ref q1), some (.int v1026), some (.int x3)] [] _ _
                  exact ih53_68 h0 h_1025 q1 v1026 x3 S1025 G1025 I1025
                · skip
                  refine pt_d (pt_bipush gx53_55 (fun v1027 h1027 => ?_))
                  exact pt_d (pt_iret gx53_57 ⟨_, rfl, S1020, G1020, I1020⟩)
    · intro h0 h q1 x2 x3 S G I
      obtain ⟨a2, z2⟩ : ∃ a : Int, x2.toInt = a := ⟨_, rfl⟩
      obtain ⟨a3, z3⟩ : ∃ a : Int, x3.toInt = a := ⟨_, rfl⟩
      refine pt_iinc (c := 1) gx53_68 rfl z3 (fun v1001 h1001 => ?_)
      show Pt _ _ _ _ [some (.ref 48), some (.ref q1), some (.int x2), some (.int v1001)] [] _ _
      refine pt_d (pt_1 (fun n d => r_goto gx53_71) ?_)
      exact ih53_4 h0 h q1 x2 v1001 S G I
    · intro h0 h q1 x2 x3 S G I
      obtain ⟨a2, z2⟩ : ∃ a : Int, x2.toInt = a := ⟨_, rfl⟩
      obtain ⟨a3, z3⟩ : ∃ a : Int, x3.toInt = a := ⟨_, rfl⟩
      refine pt_1 (fun n d => r_iloadn gx53_76 rfl) ?_
      refine pt_d (pt_1 (fun n d => r_iloadn gx53_77 rfl) ?_)
      refine pt_d (pt_icmp_ge gx53_78 z3 z2 (fun e1001 => ?_) (fun e1001 => ?_))
      · skip
        refine pt_d (pt_1 (fun n d => r_aloadn gx53_100 rfl) ?_)
        refine pt_d (pt_1 (fun n d => r_aloadn gx53_101 rfl) ?_)
        refine pt_d (pt_1 (fun n d => r_iloadn gx53_102 rfl) ?_)
        refine pt_d (pt_virt (as := [.int x2]) (r := [.ref 48]) gx53_103 rfl (show zmt[56]? = some zM56 from rfl) rfl rfl rfl rfl (wk_56 S z2 I) (kqI (fun v1002 y1002 h_1002 h1002 P1002 => ?_)))
        have S1002 := P1002.1
        have G1002 := hk_t G P1002.2.1
        have I1002 := P1002.2.2
        show Pt _ _ _ 106 _ [.int v1002, .ref 48] _ _
        refine pt_d (pt_1 (fun n d => r_iloadn gx53_106 rfl) ?_)
        refine pt_d (pt_virt (as := [.int v1002, .int x2]) (r := []) gx53_107 rfl (show zmt[60]? = some zM60 from rfl) rfl rfl rfl rfl (wk_60 S1002 h1002 z2 I1002) (kqI (fun v1003 y1003 h_1003 h1003 P1003 => ?_)))
        have S1003 := P1003.1
        have G1003 := hk_t G1002 P1003.2.1
        have I1003 := P1003.2.2
        show Pt _ _ _ 110 _ [.int v1003] _ _
        exact pt_d (pt_iret gx53_110 ⟨_, rfl, S1003, G1003, I1003⟩)
      · skip
        refine pt_d (pt_1 (fun n d => r_aloadn gx53_81 rfl) ?_)
        refine pt_d (pt_getR gx53_82 S tr_48_6 ?_)
        refine pt_d (pt_1 (fun n d => r_iloadn gx53_85 rfl) ?_)
        refine pt_d (pt_1 (fun n d => r_aloadn gx53_86 rfl) ?_)
        refine pt_d (pt_1 (fun n d => r_iloadn gx53_87 rfl) ?_)
        refine pt_d (pt_1 (fun n d => r_iloadn gx53_88 rfl) ?_)
        refine pt_d (pt_1 (fun n d => r_aloadn gx53_89 rfl) ?_)
        refine pt_d (pt_virt (as := [.int x3, .int x2, .ref q1]) (r := [.int x3, .ref 51]) gx53_90 rfl (show zmt[54]? = some zM54 from rfl) rfl rfl rfl rfl (wk_54 S z3 z2 I) (kqI (fun v1005 y1005 h_1005 h1005 P1005 => ?_)))
        have S1005 := P1005.1
        have G1005 := hk_t G P1005.2.1
        have I1005 := P1005.2.2
        show Pt _ _ _ 93 _ [.int v1005, .int x3, .ref 51] _ _
        refine pt_d (pt_iasth (N' := 10) gx53_93 S1005 tl_51 z3 h1005 (fun h_1006 S1006 p1006 q1006 e1006 K1006 => ?_))
        have G1006 := hk_t G1005 K1006
        have I1006 := IV_ua I1005 K1006 e1006 (by decide)
        refine pt_d (pt_iinc (c := 1) gx53_94 rfl z3 (fun v1007 h1007 => ?_))
        show Pt _ _ _ _ [some (.ref 48), some (.ref q1), some (.int x2), some (.int v1007)] [] _ _
        refine pt_d (pt_1 (fun n d => r_goto gx53_97) ?_)
        exact ih53_76 h0 h_1006 q1 x2 v1007 S1006 G1006 I1006
theorem wk_53 {n : Nat} {X : aX} {h : aH} {q1 : Nat} (S : wS h) (I : IV h) : Pt n X zM53 0 [some (.ref 48), some (.ref q1), none, none] [] h (qI (fun _ h' => wS h' ∧ hk h h' ∧ IV h')) := (wl_53 n).1 h h q1 S (hk_r h) I
theorem wl_62 {X : aX} : ∀ n : Nat, (∀ (h0 h : aH) (x1 : Int32) (x2 : Int32), wS h → hk h0 h → IV h → Pt n X zM62 0 [some (.ref 48), some (.int x1), some (.int x2), none, none] [] h (qN (fun h' => wS h' ∧ hk h0 h' ∧ IV h'))) ∧
    (∀ (h0 h : aH) (x1 : Int32) (x2 : Int32) (q3 : Nat) (x4 : Int32), wS h → hk h0 h → IV h → Pt n X zM62 24 [some (.ref 48), some (.int x1), some (.int x2), some (.ref q3), some (.int x4)] [] h (qN (fun h' => wS h' ∧ hk h0 h' ∧ IV h'))) ∧
    (∀ (h0 h : aH) (x1 : Int32) (x2 : Int32) (q3 : Nat) (x4 : Int32) (xs1 : Int32) (xs2 : Int32), wS h → hk h0 h → IV h → Pt n X zM62 109 [some (.ref 48), some (.int x1), some (.int x2), some (.ref q3), some (.int x4)] [.int xs2, .int xs1, .ref 54] h (qN (fun h' => wS h' ∧ hk h0 h' ∧ IV h'))) ∧
    (∀ (h0 h : aH) (x1 : Int32) (x2 : Int32) (q3 : Nat) (x4 : Int32), wS h → hk h0 h → IV h → Pt n X zM62 120 [some (.ref 48), some (.int x1), some (.int x2), some (.ref q3), some (.int x4)] [] h (qN (fun h' => wS h' ∧ hk h0 h' ∧ IV h'))) := by
  intro n
  induction n with
  | zero => refine ⟨?_, ?_, ?_, ?_⟩ <;> (intros; exact pt_z)
  | succ n ih =>
    obtain ⟨ih62_0, ih62_24, ih62_109, ih62_120⟩ := ih
    refine ⟨?_, ?_, ?_, ?_⟩
    · intro h0 h x1 x2 S G I
      obtain ⟨a1, z1⟩ : ∃ a : Int, x1.toInt = a := ⟨_, rfl⟩
      obtain ⟨a2, z2⟩ : ∃ a : Int, x2.toInt = a := ⟨_, rfl⟩
      refine pt_1 (fun n d => r_aloadn gx62_0 rfl) ?_
      refine pt_d (pt_getR gx62_1 S tr_48_2 ?_)
      refine pt_d (pt_1 (fun n d => r_iloadn gx62_4 rfl) ?_)
      refine pt_d (pt_1 (fun n d => r_aloadn gx62_5 rfl) ?_)
      refine pt_d (pt_getR gx62_6 S tr_48_0 ?_)
      refine pt_d (pt_getI (B := 0) gx62_9 S (fun v1003 h1003 => ?_))
      refine pt_d (pt_virt (as := [.int x2, .int v1003]) (r := []) gx62_12 rfl (show zmt[1]? = some zM1 from rfl) rfl rfl rfl rfl (wk_1 S z2 h1003 I) (kqR (fun q1004 h_1004 P1004 => ?_)))
      have S1004 := P1004.1
      have G1004 := hk_t G P1004.2.1
      have I1004 := P1004.2.2
      show Pt _ _ _ 15 _ [.ref q1004] _ _
      refine pt_d (pt_1 (fun n d => r_astoren (L' := [some (.ref 48), some (.int x1), some (.int x2), some (.ref q1004), none]) gx62_15 rfl rfl) ?_)
      refine pt_d (pt_1 (fun n d => r_aloadn gx62_16 rfl) ?_)
      refine pt_d (pt_iconst gx62_17 (fun v1005 h1005 => ?_))
      refine pt_d (pt_putIh (B := 12) gx62_18 S1004 h1005 (fun h_1006 S1006 e1006 K1006 => ?_))
      have G1006 := hk_t G1004 K1006
      have I1006 := IV_uf I1004 K1006 e1006 (by decide)
      refine pt_d (pt_iconst gx62_21 (fun v1007 h1007 => ?_))
      refine pt_d (pt_1 (fun n d => r_istore (L' := [some (.ref 48), some (.int x1), some (.int x2), some (.ref q1004), some (.int v1007)]) gx62_22 rfl rfl) ?_)
      exact ih62_24 h0 h_1006 x1 x2 q1004 v1007 S1006 G1006 I1006
    · intro h0 h x1 x2 q3 x4 S G I
      obtain ⟨a1, z1⟩ : ∃ a : Int, x1.toInt = a := ⟨_, rfl⟩
      obtain ⟨a2, z2⟩ : ∃ a : Int, x2.toInt = a := ⟨_, rfl⟩
      obtain ⟨a4, z4⟩ : ∃ a : Int, x4.toInt = a := ⟨_, rfl⟩
      refine pt_1 (fun n d => r_iload gx62_24 rfl) ?_
      refine pt_d (pt_1 (fun n d => r_aloadn gx62_26 rfl) ?_)
      refine pt_d (pt_getR gx62_27 S tr_48_0 ?_)
      refine pt_d (pt_getI (B := 1) gx62_30 S (fun v1002 h1002 => ?_))
      refine pt_d (pt_icmp_ge gx62_33 z4 h1002 (fun e1003 => ?_) (fun e1003 => ?_))
      · skip
        exact pt_d (pt_vret gx62_126 ⟨rfl, S, G, I⟩)
      · skip
        refine pt_d (pt_1 (fun n d => r_aloadn gx62_36 rfl) ?_)
        refine pt_d (pt_getR gx62_37 S tr_48_0 ?_)
        refine pt_d (pt_1 (fun n d => r_iload gx62_40 rfl) ?_)
        refine pt_d (pt_1 (fun n d => r_iloadn gx62_42 rfl) ?_)
        refine pt_d (pt_virt (as := [.int x4, .int x1]) (r := []) gx62_43 rfl (show zmt[76]? = some zM76 from rfl) rfl rfl rfl rfl (c_76 S z4 z1) (kqP (fun v1005 h1005 => ?_)))
        show Pt _ _ _ 46 _ [.int v1005] _ _
        refine pt_d (pt_ifB_eq gx62_46 h1005 (fun e1006 => ?_) (fun e1006 => ?_))
        · skip
          exact ih62_120 h0 h x1 x2 q3 x4 S G I
        · skip
          refine pt_d (pt_1 (fun n d => r_aloadn gx62_49 rfl) ?_)
          refine pt_d (pt_getD (B := 12) gx62_50 S (fun k1007 => ?_) (fun q1007 k1007 => ?_))
          · skip
            refine pt_d (pt_1 (fun n d => r_iload gx62_53 rfl) ?_)
            exact pt_d (pt_ialdN gx62_55)
          · skip
            refine pt_d (pt_1 (fun n d => r_iload gx62_53 rfl) ?_)
            refine pt_d (pt_ialdD gx62_55 z4 (fun v1009 p1009 h1009 => ?_))
            refine pt_d (pt_iconst gx62_56 (fun v1010 h1010 => ?_))
            refine pt_d (pt_icmp_eq gx62_57 h1009 h1010 (fun e1011 => ?_) (fun e1011 => ?_))
            · skip
              exact ih62_120 h0 h x1 x2 q3 x4 S G I
            · skip
              refine pt_d (pt_1 (fun n d => r_aloadn gx62_60 rfl) ?_)
              refine pt_d (pt_getR gx62_61 S tr_48_10 ?_)
              refine pt_d (pt_1 (fun n d => r_aloadn gx62_64 rfl) ?_)
              refine pt_d (pt_getI (B := 12) gx62_65 S (fun v1013 h1013 => ?_))
              refine pt_d (pt_1 (fun n d => r_iload gx62_68 rfl) ?_)
              refine pt_d (pt_iasth (N' := 150) gx62_70 S tl_53 h1013 z4 (fun h_1014 S1014 p1014 q1014 e1014 K1014 => ?_))
              have G1014 := hk_t G K1014
              have I1014 := IV_ua I K1014 e1014 (by decide)
              refine pt_d (pt_1 (fun n d => r_aloadn gx62_71 rfl) ?_)
              refine pt_d (pt_getR gx62_72 S1014 tr_48_11 ?_)
              refine pt_d (pt_1 (fun n d => r_aloadn gx62_75 rfl) ?_)
              refine pt_d (pt_getI (B := 12) gx62_76 S1014 (fun v1016 h1016 => ?_))
              have h1016 : v1016.toInt = vw h 48 12 := by rw [h1016, e1014, up_c (by decide)]
              refine pt_d (pt_1 (fun n d => r_iloadn gx62_79 rfl) ?_)
              refine pt_d (pt_if_ne gx62_80 z2 (fun e1017 => ?_) (fun e1017 => ?_))
              · skip
                refine pt_d (pt_1 (fun n d => r_aloadn gx62_87 rfl) ?_)
                refine pt_d (pt_getR gx62_88 S1014 tr_48_2 ?_)
                refine pt_d (pt_1 (fun n d => r_iloadn gx62_91 rfl) ?_)
                refine pt_d (pt_iconst gx62_92 (fun v1019 h1019 => ?_))
                refine pt_d (pt_isub gx62_93 z2 h1019 (fun v1020 h1020 => ?_))
                refine pt_d (pt_1 (fun n d => r_aloadn gx62_94 rfl) ?_)
                refine pt_d (pt_getR gx62_95 S1014 tr_48_0 ?_)
                refine pt_d (pt_getI (B := 0) gx62_98 S1014 (fun v1022 h1022 => ?_))
                have h1022 : v1022.toInt = vw h 1 0 := by rw [h1022, e1014, up_c (by decide)]
                refine pt_d (pt_virt (as := [.int v1020, .int v1022]) (r := [.int v1016, .ref 54]) gx62_101 rfl (show zmt[1]? = some zM1 from rfl) rfl rfl rfl rfl (wk_1 S1014 h1020 h1022 I1014) (kqR (fun q1023 h_1023 P1023 => ?_)))
                have S1023 := P1023.1
                have G1023 := hk_t G1014 P1023.2.1
                have I1023 := P1023.2.2
                show Pt _ _ _ 104 _ [.ref q1023, .int v1016, .ref 54] _ _
                refine pt_d (pt_1 (fun n d => r_iload gx62_104 rfl) ?_)
                refine pt_d (pt_virt (as := [.int x4]) (r := [.int v1016, .ref 54]) gx62_106 rfl (show zmt[102]? = some zM102 from rfl) rfl rfl rfl rfl (wk_102 S1023 z4 I1023) (kqI (fun v1024 y1024 h_1024 h1024 P1024 => ?_)))
                have S1024 := P1024.1
                have G1024 := hk_t G1023 P1024.2.1
                have I1024 := P1024.2.2
                show Pt _ _ _ 109 _ [.int v1024, .int v1016, .ref 54] _ _
                exact ih62_109 h0 h_1024 x1 x2 q3 x4 v1016 v1024 S1024 G1024 I1024
              · skip
                refine pt_d (pt_iconst gx62_83 (fun v1025 h1025 => ?_))
                refine pt_d (pt_1 (fun n d => r_goto gx62_84) ?_)
                exact ih62_109 h0 h_1014 x1 x2 q3 x4 v1016 v1025 S1014 G1014 I1014
    · intro h0 h x1 x2 q3 x4 xs1 xs2 S G I
      obtain ⟨a1, z1⟩ : ∃ a : Int, x1.toInt = a := ⟨_, rfl⟩
      obtain ⟨a2, z2⟩ : ∃ a : Int, x2.toInt = a := ⟨_, rfl⟩
      obtain ⟨a4, z4⟩ : ∃ a : Int, x4.toInt = a := ⟨_, rfl⟩
      obtain ⟨as1, zs1⟩ : ∃ a : Int, xs1.toInt = a := ⟨_, rfl⟩
      obtain ⟨as2, zs2⟩ : ∃ a : Int, xs2.toInt = a := ⟨_, rfl⟩
      refine pt_iasth (N' := 150) gx62_109 S tl_54 zs1 zs2 (fun h_1001 S1001 p1001 q1001 e1001 K1001 => ?_)
      have G1001 := hk_t G K1001
      have I1001 := IV_ua I K1001 e1001 (by decide)
      refine pt_d (pt_1 (fun n d => r_aloadn gx62_110 rfl) ?_)
      refine pt_d (pt_1 (fun n d => r_dup gx62_111 rfl) ?_)
      refine pt_d (pt_getI (B := 12) gx62_112 S1001 (fun v1002 h1002 => ?_))
      have h1002 : v1002.toInt = vw h 48 12 := by rw [h1002, e1001, up_c (by decide)]
      refine pt_d (pt_iconst gx62_115 (fun v1003 h1003 => ?_))
      refine pt_d (pt_iadd gx62_116 h1002 h1003 (fun v1004 h1004 => ?_))
      refine pt_d (pt_putIh (B := 12) gx62_117 S1001 h1004 (fun h_1005 S1005 e1005 K1005 => ?_))
      have G1005 := hk_t G1001 K1005
      have I1005 := IV_uf I1001 K1005 e1005 (by decide)
      exact ih62_120 h0 h_1005 x1 x2 q3 x4 S1005 G1005 I1005
    · intro h0 h x1 x2 q3 x4 S G I
      obtain ⟨a1, z1⟩ : ∃ a : Int, x1.toInt = a := ⟨_, rfl⟩
      obtain ⟨a2, z2⟩ : ∃ a : Int, x2.toInt = a := ⟨_, rfl⟩
      obtain ⟨a4, z4⟩ : ∃ a : Int, x4.toInt = a := ⟨_, rfl⟩
      refine pt_iinc (c := 1) gx62_120 rfl z4 (fun v1001 h1001 => ?_)
      show Pt _ _ _ _ [some (.ref 48), some (.int x1), some (.int x2), some (.ref q3), some (.int v1001)] [] _ _
      refine pt_d (pt_1 (fun n d => r_goto gx62_123) ?_)
      exact ih62_24 h0 h x1 x2 q3 v1001 S G I
theorem wk_62 {n : Nat} {X : aX} {h : aH} {x1 : Int32} {x2 : Int32} {a1 : Int} {a2 : Int} (S : wS h) (z1 : x1.toInt = a1) (z2 : x2.toInt = a2) (I : IV h) : Pt n X zM62 0 [some (.ref 48), some (.int x1), some (.int x2), none, none] [] h (qN (fun h' => wS h' ∧ hk h h' ∧ IV h')) := (wl_62 n).1 h h x1 x2 S (hk_r h) I
theorem wl_63 {X : aX} : ∀ n : Nat, (∀ (h0 h : aH), wS h → hk h0 h → IV h → Pt n X zM63 0 [some (.ref 48), none, none] [] h (qI (fun _ h' => wS h' ∧ hk h0 h' ∧ IV h'))) ∧
    (∀ (h0 h : aH) (x1 : Int32) (x2 : Int32), wS h → hk h0 h → IV h → Pt n X zM63 4 [some (.ref 48), some (.int x1), some (.int x2)] [] h (qI (fun _ h' => wS h' ∧ hk h0 h' ∧ IV h'))) := by
  intro n
  induction n with
  | zero => refine ⟨?_, ?_⟩ <;> (intros; exact pt_z)
  | succ n ih =>
    obtain ⟨ih63_0, ih63_4⟩ := ih
    refine ⟨?_, ?_⟩
    · intro h0 h  S G I
      refine pt_iconst gx63_0 (fun v1001 h1001 => ?_)
      refine pt_d (pt_1 (fun n d => r_istoren (L' := [some (.ref 48), some (.int v1001), none]) gx63_1 rfl rfl) ?_)
      refine pt_d (pt_iconst gx63_2 (fun v1002 h1002 => ?_))
      refine pt_d (pt_1 (fun n d => r_istoren (L' := [some (.ref 48), some (.int v1001), some (.int v1002)]) gx63_3 rfl rfl) ?_)
      exact ih63_4 h0 h v1001 v1002 S G I
    · intro h0 h x1 x2 S G I
      obtain ⟨a1, z1⟩ : ∃ a : Int, x1.toInt = a := ⟨_, rfl⟩
      obtain ⟨a2, z2⟩ : ∃ a : Int, x2.toInt = a := ⟨_, rfl⟩
      refine pt_1 (fun n d => r_iloadn gx63_4 rfl) ?_
      refine pt_d (pt_1 (fun n d => r_aloadn gx63_5 rfl) ?_)
      refine pt_d (pt_getI (B := 12) gx63_6 S (fun v1001 h1001 => ?_))
      refine pt_d (pt_icmp_ge gx63_9 z2 h1001 (fun e1002 => ?_) (fun e1002 => ?_))
      · skip
        refine pt_d (pt_1 (fun n d => r_iloadn gx63_35 rfl) ?_)
        exact pt_d (pt_iret gx63_36 ⟨_, rfl, S, G, I⟩)
      · skip
        refine pt_d (pt_1 (fun n d => r_aloadn gx63_12 rfl) ?_)
        refine pt_d (pt_getR gx63_13 S tr_48_11 ?_)
        refine pt_d (pt_1 (fun n d => r_iloadn gx63_16 rfl) ?_)
        refine pt_d (pt_iald (N' := 150) gx63_17 S tl_54 z2 (fun v1004 p1004 q1004 h1004 => ?_))
        refine pt_d (pt_1 (fun n d => r_aloadn gx63_18 rfl) ?_)
        refine pt_d (pt_getR gx63_19 S tr_48_11 ?_)
        refine pt_d (pt_1 (fun n d => r_iloadn gx63_22 rfl) ?_)
        refine pt_d (pt_iald (N' := 150) gx63_23 S tl_54 z1 (fun v1006 p1006 q1006 h1006 => ?_))
        refine pt_d (pt_icmp_le gx63_24 h1004 h1006 (fun e1007 => ?_) (fun e1007 => ?_))
        · skip
          refine pt_d (pt_iinc (c := 1) gx63_29 rfl z2 (fun v1008 h1008 => ?_))
          show Pt _ _ _ _ [some (.ref 48), some (.int x1), some (.int v1008)] [] _ _
          refine pt_d (pt_1 (fun n d => r_goto gx63_32) ?_)
          exact ih63_4 h0 h x1 v1008 S G I
        · skip
          refine pt_d (pt_1 (fun n d => r_iloadn gx63_27 rfl) ?_)
          refine pt_d (pt_1 (fun n d => r_istoren (L' := [some (.ref 48), some (.int x2), some (.int x2)]) gx63_28 rfl rfl) ?_)
          refine pt_d (pt_iinc (c := 1) gx63_29 rfl z2 (fun v1009 h1009 => ?_))
          show Pt _ _ _ _ [some (.ref 48), some (.int x2), some (.int v1009)] [] _ _
          refine pt_d (pt_1 (fun n d => r_goto gx63_32) ?_)
          exact ih63_4 h0 h x2 v1009 S G I
theorem wk_63 {n : Nat} {X : aX} {h : aH} (S : wS h) (I : IV h) : Pt n X zM63 0 [some (.ref 48), none, none] [] h (qI (fun _ h' => wS h' ∧ hk h h' ∧ IV h')) := (wl_63 n).1 h h  S (hk_r h) I
theorem wl_64 {X : aX} : ∀ n : Nat, (∀ (h0 h : aH), wS h → hk h0 h → IV h → Pt n X zM64 0 [some (.ref 48)] [] h (qI (fun _ h' => wS h' ∧ hk h0 h' ∧ IV h'))) := by
  intro n
  induction n with
  | zero => refine ?_ <;> (intros; exact pt_z)
  | succ n ih =>
    have ih64_0 := ih
    refine ?_
    · intro h0 h  S G I
      refine pt_1 (fun n d => r_aloadn gx64_0 rfl) ?_
      refine pt_d (pt_1 (fun n d => r_aloadn gx64_1 rfl) ?_)
      refine pt_d (pt_getI (B := 7) gx64_2 S (fun v1001 h1001 => ?_))
      refine pt_d (pt_ldc (c := 1103515245) gx64_5 rfl (fun v1002 h1002 => ?_))
      refine pt_d (pt_imul gx64_7 h1001 h1002 (fun v1003 h1003 => ?_))
      refine pt_d (pt_sipush gx64_8 (fun v1004 h1004 => ?_))
      refine pt_d (pt_iadd gx64_11 h1003 h1004 (fun v1005 h1005 => ?_))
      refine pt_d (pt_putIh (B := 7) gx64_12 S h1005 (fun h_1006 S1006 e1006 K1006 => ?_))
      have G1006 := hk_t G K1006
      have I1006 := IV_uf I K1006 e1006 (by decide)
      refine pt_d (pt_1 (fun n d => r_aloadn gx64_15 rfl) ?_)
      refine pt_d (pt_getI (B := 12) gx64_16 S1006 (fun v1007 h1007 => ?_))
      have h1007 : v1007.toInt = vw h 48 12 := by rw [h1007, e1006, up_j (by decide)]
      refine pt_d (pt_if_ne gx64_19 h1007 (fun e1008 => ?_) (fun e1008 => ?_))
      · skip
        refine pt_d (pt_1 (fun n d => r_aloadn gx64_26 rfl) ?_)
        refine pt_d (pt_getI (B := 7) gx64_27 S1006 (fun v1009 h1009 => ?_))
        have h1009 : v1009.toInt = w32 ((w32 ((vw h 48 7) * 1103515245)) + 12345) := by rw [h1009, e1006, up_s]
        refine pt_d (pt_bipush gx64_30 (fun v1010 h1010 => ?_))
        refine pt_d (pt_iushr gx64_32 h1009 h1010 (fun v1011 h1011 => ?_))
        refine pt_d (pt_1 (fun n d => r_aloadn gx64_33 rfl) ?_)
        refine pt_d (pt_getI (B := 12) gx64_34 S1006 (fun v1012 h1012 => ?_))
        have h1012 : v1012.toInt = vw h 48 12 := by rw [h1012, e1006, up_j (by decide)]
        refine pt_d (pt_irem gx64_37 h1011 h1012 (fun v1013 h1013 => ?_))
        exact pt_d (pt_iret gx64_38 ⟨_, rfl, S1006, G1006, I1006⟩)
      · skip
        refine pt_d (pt_iconst gx64_22 (fun v1014 h1014 => ?_))
        refine pt_d (pt_1 (fun n d => r_goto gx64_23) ?_)
        exact pt_d (pt_iret gx64_38 ⟨_, rfl, S1006, G1006, I1006⟩)
theorem wk_64 {n : Nat} {X : aX} {h : aH} (S : wS h) (I : IV h) : Pt n X zM64 0 [some (.ref 48)] [] h (qI (fun _ h' => wS h' ∧ hk h h' ∧ IV h')) := (wl_64 n) h h  S (hk_r h) I
theorem wl_65 {X : aX} : ∀ n : Nat, (∀ (h0 h : aH) (x1 : Int32), wS h → hk h0 h → IV h → Pt n X zM65 0 [some (.ref 48), some (.int x1), none] [] h (qN (fun h' => wS h' ∧ hk h0 h' ∧ IV h'))) ∧
    (∀ (h0 h : aH) (x1 : Int32) (x2 : Int32), wS h → hk h0 h → IV h → Pt n X zM65 55 [some (.ref 48), some (.int x1), some (.int x2)] [] h (qN (fun h' => wS h' ∧ hk h0 h' ∧ IV h'))) := by
  intro n
  induction n with
  | zero => refine ⟨?_, ?_⟩ <;> (intros; exact pt_z)
  | succ n ih =>
    obtain ⟨ih65_0, ih65_55⟩ := ih
    refine ⟨?_, ?_⟩
    · intro h0 h x1 S G I
      obtain ⟨a1, z1⟩ : ∃ a : Int, x1.toInt = a := ⟨_, rfl⟩
      refine pt_1 (fun n d => r_iloadn gx65_0 rfl) ?_
      refine pt_d (pt_1 (fun n d => r_aloadn gx65_1 rfl) ?_)
      refine pt_d (pt_getI (B := 12) gx65_2 S (fun v1001 h1001 => ?_))
      refine pt_d (pt_icmp_ge gx65_5 z1 h1001 (fun e1002 => ?_) (fun e1002 => ?_))
      · skip
        exact pt_d (pt_vret gx65_17 ⟨rfl, S, G, I⟩)
      · skip
        refine pt_d (pt_1 (fun n d => r_aloadn gx65_8 rfl) ?_)
        refine pt_d (pt_getI (B := 9) gx65_9 S (fun v1003 h1003 => ?_))
        refine pt_d (pt_bipush gx65_12 (fun v1004 h1004 => ?_))
        refine pt_d (pt_icmp_lt gx65_14 h1003 h1004 (fun e1005 => ?_) (fun e1005 => ?_))
        · skip
          refine pt_d (pt_1 (fun n d => r_aloadn gx65_18 rfl) ?_)
          refine pt_d (pt_getR gx65_19 S tr_48_8 ?_)
          refine pt_d (pt_1 (fun n d => r_aloadn gx65_22 rfl) ?_)
          refine pt_d (pt_getI (B := 9) gx65_23 S (fun v1007 h1007 => ?_))
          refine pt_d (pt_1 (fun n d => r_aloadn gx65_26 rfl) ?_)
          refine pt_d (pt_getR gx65_27 S tr_48_10 ?_)
          refine pt_d (pt_1 (fun n d => r_iloadn gx65_30 rfl) ?_)
          refine pt_d (pt_iald (N' := 150) gx65_31 S tl_53 z1 (fun v1009 p1009 q1009 h1009 => ?_))
          refine pt_d (pt_iasth (N' := 9) gx65_32 S tl_52 h1007 h1009 (fun h_1010 S1010 p1010 q1010 e1010 K1010 => ?_))
          have G1010 := hk_t G K1010
          have I1010 := IV_ua I K1010 e1010 (by decide)
          refine pt_d (pt_1 (fun n d => r_aloadn gx65_33 rfl) ?_)
          refine pt_d (pt_1 (fun n d => r_dup gx65_34 rfl) ?_)
          refine pt_d (pt_getI (B := 9) gx65_35 S1010 (fun v1011 h1011 => ?_))
          have h1011 : v1011.toInt = vw h 48 9 := by rw [h1011, e1010, up_c (by decide)]
          refine pt_d (pt_iconst gx65_38 (fun v1012 h1012 => ?_))
          refine pt_d (pt_iadd gx65_39 h1011 h1012 (fun v1013 h1013 => ?_))
          refine pt_d (pt_putIh (B := 9) gx65_40 S1010 h1013 (fun h_1014 S1014 e1014 K1014 => ?_))
          have G1014 := hk_t G1010 K1014
          have I1014 := IV_uf I1010 K1014 e1014 (by decide)
          refine pt_d (pt_1 (fun n d => r_aloadn gx65_43 rfl) ?_)
          refine pt_d (pt_1 (fun n d => r_dup gx65_44 rfl) ?_)
          refine pt_d (pt_getI (B := 12) gx65_45 S1014 (fun v1015 h1015 => ?_))
          have h1015 : v1015.toInt = vw h 48 12 := by rw [h1015, e1014, up_j (by decide), e1010, up_c (by decide)]
          refine pt_d (pt_iconst gx65_48 (fun v1016 h1016 => ?_))
          refine pt_d (pt_isub gx65_49 h1015 h1016 (fun v1017 h1017 => ?_))
          refine pt_d (pt_putIh (B := 12) gx65_50 S1014 h1017 (fun h_1018 S1018 e1018 K1018 => ?_))
          have G1018 := hk_t G1014 K1018
          have I1018 := IV_uf I1014 K1018 e1018 (by decide)
          refine pt_d (pt_1 (fun n d => r_iloadn gx65_53 rfl) ?_)
          refine pt_d (pt_1 (fun n d => r_istoren (L' := [some (.ref 48), some (.int x1), some (.int x1)]) gx65_54 rfl rfl) ?_)
          exact ih65_55 h0 h_1018 x1 x1 S1018 G1018 I1018
        · skip
          exact pt_d (pt_vret gx65_17 ⟨rfl, S, G, I⟩)
    · intro h0 h x1 x2 S G I
      obtain ⟨a1, z1⟩ : ∃ a : Int, x1.toInt = a := ⟨_, rfl⟩
      obtain ⟨a2, z2⟩ : ∃ a : Int, x2.toInt = a := ⟨_, rfl⟩
      refine pt_1 (fun n d => r_iloadn gx65_55 rfl) ?_
      refine pt_d (pt_1 (fun n d => r_aloadn gx65_56 rfl) ?_)
      refine pt_d (pt_getI (B := 12) gx65_57 S (fun v1001 h1001 => ?_))
      refine pt_d (pt_icmp_ge gx65_60 z2 h1001 (fun e1002 => ?_) (fun e1002 => ?_))
      · skip
        exact pt_d (pt_vret gx65_97 ⟨rfl, S, G, I⟩)
      · skip
        refine pt_d (pt_1 (fun n d => r_aloadn gx65_63 rfl) ?_)
        refine pt_d (pt_getR gx65_64 S tr_48_10 ?_)
        refine pt_d (pt_1 (fun n d => r_iloadn gx65_67 rfl) ?_)
        refine pt_d (pt_1 (fun n d => r_aloadn gx65_68 rfl) ?_)
        refine pt_d (pt_getR gx65_69 S tr_48_10 ?_)
        refine pt_d (pt_1 (fun n d => r_iloadn gx65_72 rfl) ?_)
        refine pt_d (pt_iconst gx65_73 (fun v1005 h1005 => ?_))
        refine pt_d (pt_iadd gx65_74 z2 h1005 (fun v1006 h1006 => ?_))
        refine pt_d (pt_iald (N' := 150) gx65_75 S tl_53 h1006 (fun v1007 p1007 q1007 h1007 => ?_))
        refine pt_d (pt_iasth (N' := 150) gx65_76 S tl_53 z2 h1007 (fun h_1008 S1008 p1008 q1008 e1008 K1008 => ?_))
        have G1008 := hk_t G K1008
        have I1008 := IV_ua I K1008 e1008 (by decide)
        refine pt_d (pt_1 (fun n d => r_aloadn gx65_77 rfl) ?_)
        refine pt_d (pt_getR gx65_78 S1008 tr_48_11 ?_)
        refine pt_d (pt_1 (fun n d => r_iloadn gx65_81 rfl) ?_)
        refine pt_d (pt_1 (fun n d => r_aloadn gx65_82 rfl) ?_)
        refine pt_d (pt_getR gx65_83 S1008 tr_48_11 ?_)
        refine pt_d (pt_1 (fun n d => r_iloadn gx65_86 rfl) ?_)
        refine pt_d (pt_iconst gx65_87 (fun v1011 h1011 => ?_))
        refine pt_d (pt_iadd gx65_88 z2 h1011 (fun v1012 h1012 => ?_))
        refine pt_d (pt_iald (N' := 150) gx65_89 S1008 tl_54 h1012 (fun v1013 p1013 q1013 h1013 => ?_))
        have h1013 : v1013.toInt = vw h 54 (w32 (a2 + 1)) := by rw [h1013, e1008, up_c (by decide)]
        refine pt_d (pt_iasth (N' := 150) gx65_90 S1008 tl_54 z2 h1013 (fun h_1014 S1014 p1014 q1014 e1014 K1014 => ?_))
        have G1014 := hk_t G1008 K1014
        have I1014 := IV_ua I1008 K1014 e1014 (by decide)
        refine pt_d (pt_iinc (c := 1) gx65_91 rfl z2 (fun v1015 h1015 => ?_))
        show Pt _ _ _ _ [some (.ref 48), some (.int x1), some (.int v1015)] [] _ _
        refine pt_d (pt_1 (fun n d => r_goto gx65_94) ?_)
        exact ih65_55 h0 h_1014 x1 v1015 S1014 G1014 I1014
theorem wk_65 {n : Nat} {X : aX} {h : aH} {x1 : Int32} {a1 : Int} (S : wS h) (z1 : x1.toInt = a1) (I : IV h) : Pt n X zM65 0 [some (.ref 48), some (.int x1), none] [] h (qN (fun h' => wS h' ∧ hk h h' ∧ IV h')) := (wl_65 n).1 h h x1 S (hk_r h) I
theorem wl_61 {X : aX} : ∀ n : Nat, (∀ (h0 h : aH) (x1 : Int32) (x2 : Int32) (x3 : Int32), wS h → hk h0 h → IV h → Pt n X zM61 0 [some (.ref 48), some (.int x1), some (.int x2), some (.int x3), none, none, none] [] h (qI (fun _ h' => wS h' ∧ hk h0 h' ∧ IV h'))) ∧
    (∀ (h0 h : aH) (x1 : Int32) (x2 : Int32) (x3 : Int32) (x4 : Int32) (x5 : Int32) (x6 : Int32), wS h → hk h0 h → IV h → Pt n X zM61 32 [some (.ref 48), some (.int x1), some (.int x2), some (.int x3), some (.int x4), some (.int x5), some (.int x6)] [] h (qI (fun _ h' => wS h' ∧ hk h0 h' ∧ IV h'))) := by
  intro n
  induction n with
  | zero => refine ⟨?_, ?_⟩ <;> (intros; exact pt_z)
  | succ n ih =>
    obtain ⟨ih61_0, ih61_32⟩ := ih
    refine ⟨?_, ?_⟩
    · intro h0 h x1 x2 x3 S G I
      obtain ⟨a1, z1⟩ : ∃ a : Int, x1.toInt = a := ⟨_, rfl⟩
      obtain ⟨a2, z2⟩ : ∃ a : Int, x2.toInt = a := ⟨_, rfl⟩
      obtain ⟨a3, z3⟩ : ∃ a : Int, x3.toInt = a := ⟨_, rfl⟩
      refine pt_1 (fun n d => r_aloadn gx61_0 rfl) ?_
      refine pt_d (pt_1 (fun n d => r_iloadn gx61_1 rfl) ?_)
      refine pt_d (pt_1 (fun n d => r_iloadn gx61_2 rfl) ?_)
      refine pt_d (pt_virt (as := [.int x1, .int x2]) (r := []) gx61_3 rfl (show zmt[62]? = some zM62 from rfl) rfl rfl rfl rfl (wk_62 S z1 z2 I) (kqN (fun h_1001 P1001 => ?_)))
      have S1001 := P1001.1
      have G1001 := hk_t G P1001.2.1
      have I1001 := P1001.2.2
      show Pt _ _ _ 6 _ [] _ _
      refine pt_d (pt_1 (fun n d => r_iloadn gx61_6 rfl) ?_)
      refine pt_d (pt_1 (fun n d => r_aloadn gx61_7 rfl) ?_)
      refine pt_d (pt_getI (B := 12) gx61_8 S1001 (fun v1002 h1002 => ?_))
      refine pt_d (pt_min gx61_11 rfl z3 h1002 (fun v1003 h1003 => ?_))
      refine pt_d (pt_1 (fun n d => r_istore (L' := [some (.ref 48), some (.int x1), some (.int x2), some (.int x3), some (.int v1003), none, none]) gx61_14 rfl rfl) ?_)
      refine pt_d (pt_1 (fun n d => r_iload gx61_16 rfl) ?_)
      refine pt_d (pt_iconst gx61_18 (fun v1004 h1004 => ?_))
      refine pt_d (pt_iadd gx61_19 h1003 h1004 (fun v1005 h1005 => ?_))
      refine pt_d (pt_iconst gx61_20 (fun v1006 h1006 => ?_))
      refine pt_d (pt_idiv gx61_21 h1005 h1006 (fun v1007 h1007 => ?_))
      refine pt_d (pt_1 (fun n d => r_istore (L' := [some (.ref 48), some (.int x1), some (.int x2), some (.int x3), some (.int v1003), some (.int v1007), none]) gx61_22 rfl rfl) ?_)
      refine pt_d (pt_1 (fun n d => r_aloadn gx61_24 rfl) ?_)
      refine pt_d (pt_iconst gx61_25 (fun v1008 h1008 => ?_))
      refine pt_d (pt_putIh (B := 9) gx61_26 S1001 h1008 (fun h_1009 S1009 e1009 K1009 => ?_))
      have G1009 := hk_t G1001 K1009
      have I1009 := IV_uf I1001 K1009 e1009 (by decide)
      refine pt_d (pt_iconst gx61_29 (fun v1010 h1010 => ?_))
      refine pt_d (pt_1 (fun n d => r_istore (L' := [some (.ref 48), some (.int x1), some (.int x2), some (.int x3), some (.int v1003), some (.int v1007), some (.int v1010)]) gx61_30 rfl rfl) ?_)
      exact ih61_32 h0 h_1009 x1 x2 x3 v1003 v1007 v1010 S1009 G1009 I1009
    · intro h0 h x1 x2 x3 x4 x5 x6 S G I
      obtain ⟨a1, z1⟩ : ∃ a : Int, x1.toInt = a := ⟨_, rfl⟩
      obtain ⟨a2, z2⟩ : ∃ a : Int, x2.toInt = a := ⟨_, rfl⟩
      obtain ⟨a3, z3⟩ : ∃ a : Int, x3.toInt = a := ⟨_, rfl⟩
      obtain ⟨a4, z4⟩ : ∃ a : Int, x4.toInt = a := ⟨_, rfl⟩
      obtain ⟨a5, z5⟩ : ∃ a : Int, x5.toInt = a := ⟨_, rfl⟩
      obtain ⟨a6, z6⟩ : ∃ a : Int, x6.toInt = a := ⟨_, rfl⟩
      refine pt_1 (fun n d => r_iload gx61_32 rfl) ?_
      refine pt_d (pt_1 (fun n d => r_iload gx61_34 rfl) ?_)
      refine pt_d (pt_icmp_ge gx61_36 z6 z4 (fun e1001 => ?_) (fun e1001 => ?_))
      · skip
        refine pt_d (pt_1 (fun n d => r_iload gx61_67 rfl) ?_)
        exact pt_d (pt_iret gx61_69 ⟨_, rfl, S, G, I⟩)
      · skip
        refine pt_d (pt_1 (fun n d => r_aloadn gx61_39 rfl) ?_)
        refine pt_d (pt_1 (fun n d => r_iload gx61_40 rfl) ?_)
        refine pt_d (pt_1 (fun n d => r_iload gx61_42 rfl) ?_)
        refine pt_d (pt_icmp_ge gx61_44 z6 z5 (fun e1002 => ?_) (fun e1002 => ?_))
        · skip
          refine pt_d (pt_1 (fun n d => r_aloadn gx61_54 rfl) ?_)
          refine pt_d (pt_virt (as := []) (r := [.ref 48]) gx61_55 rfl (show zmt[64]? = some zM64 from rfl) rfl rfl rfl rfl (wk_64 S I) (kqI (fun v1003 y1003 h_1003 h1003 P1003 => ?_)))
          have S1003 := P1003.1
          have G1003 := hk_t G P1003.2.1
          have I1003 := P1003.2.2
          show Pt _ _ _ 58 _ [.int v1003, .ref 48] _ _
          refine pt_d (pt_virt (as := [.int v1003]) (r := []) gx61_58 rfl (show zmt[65]? = some zM65 from rfl) rfl rfl rfl rfl (wk_65 S1003 h1003 I1003) (kqN (fun h_1004 P1004 => ?_)))
          have S1004 := P1004.1
          have G1004 := hk_t G1003 P1004.2.1
          have I1004 := P1004.2.2
          show Pt _ _ _ 61 _ [] _ _
          refine pt_d (pt_iinc (c := 1) gx61_61 rfl z6 (fun v1005 h1005 => ?_))
          show Pt _ _ _ _ [some (.ref 48), some (.int x1), some (.int x2), some (.int x3), some (.int x4), some (.int x5), some (.int v1005)] [] _ _
          refine pt_d (pt_1 (fun n d => r_goto gx61_64) ?_)
          exact ih61_32 h0 h_1004 x1 x2 x3 x4 x5 v1005 S1004 G1004 I1004
        · skip
          refine pt_d (pt_1 (fun n d => r_aloadn gx61_47 rfl) ?_)
          refine pt_d (pt_virt (as := []) (r := [.ref 48]) gx61_48 rfl (show zmt[63]? = some zM63 from rfl) rfl rfl rfl rfl (wk_63 S I) (kqI (fun v1006 y1006 h_1006 h1006 P1006 => ?_)))
          have S1006 := P1006.1
          have G1006 := hk_t G P1006.2.1
          have I1006 := P1006.2.2
          show Pt _ _ _ 51 _ [.int v1006, .ref 48] _ _
          refine pt_d (pt_1 (fun n d => r_goto gx61_51) ?_)
          refine pt_d (pt_virt (as := [.int v1006]) (r := []) gx61_58 rfl (show zmt[65]? = some zM65 from rfl) rfl rfl rfl rfl (wk_65 S1006 h1006 I1006) (kqN (fun h_1007 P1007 => ?_)))
          have S1007 := P1007.1
          have G1007 := hk_t G1006 P1007.2.1
          have I1007 := P1007.2.2
          show Pt _ _ _ 61 _ [] _ _
          refine pt_d (pt_iinc (c := 1) gx61_61 rfl z6 (fun v1008 h1008 => ?_))
          show Pt _ _ _ _ [some (.ref 48), some (.int x1), some (.int x2), some (.int x3), some (.int x4), some (.int x5), some (.int v1008)] [] _ _
          refine pt_d (pt_1 (fun n d => r_goto gx61_64) ?_)
          exact ih61_32 h0 h_1007 x1 x2 x3 x4 x5 v1008 S1007 G1007 I1007
theorem wk_61 {n : Nat} {X : aX} {h : aH} {x1 : Int32} {x2 : Int32} {x3 : Int32} {a1 : Int} {a2 : Int} {a3 : Int} (S : wS h) (z1 : x1.toInt = a1) (z2 : x2.toInt = a2) (z3 : x3.toInt = a3) (I : IV h) : Pt n X zM61 0 [some (.ref 48), some (.int x1), some (.int x2), some (.int x3), none, none, none] [] h (qI (fun _ h' => wS h' ∧ hk h h' ∧ IV h')) := (wl_61 n).1 h h x1 x2 x3 S (hk_r h) I
theorem wl_66 {X : aX} : ∀ n : Nat, (∀ (h0 h : aH) (x1 : Int32), wS h → hk h0 h → IV h → Pt n X zM66 0 [some (.ref 48), some (.int x1), none, none] [] h (qN (fun h' => wS h' ∧ hk h0 h' ∧ IV h'))) ∧
    (∀ (h0 h : aH) (x1 : Int32) (q2 : Nat) (x3 : Int32), wS h → hk h0 h → IV h → Pt n X zM66 28 [some (.ref 48), some (.int x1), some (.ref q2), some (.int x3)] [] h (qN (fun h' => wS h' ∧ hk h0 h' ∧ IV h'))) ∧
    (∀ (h0 h : aH) (x1 : Int32) (q2 : Nat) (x3 : Int32) (xs1 : Int32) (xs2 : Int32), wS h → hk h0 h → IV h → Pt n X zM66 91 [some (.ref 48), some (.int x1), some (.ref q2), some (.int x3)] [.int xs2, .int xs1, .ref 48] h (qN (fun h' => wS h' ∧ hk h0 h' ∧ IV h'))) ∧
    (∀ (h0 h : aH) (x1 : Int32) (q2 : Nat) (x3 : Int32), wS h → hk h0 h → IV h → Pt n X zM66 120 [some (.ref 48), some (.int x1), some (.ref q2), some (.int x3)] [] h (qN (fun h' => wS h' ∧ hk h0 h' ∧ IV h'))) ∧
    (∀ (h0 h : aH) (x1 : Int32) (q2 : Nat) (x3 : Int32), wS h → hk h0 h → IV h → Pt n X zM66 143 [some (.ref 48), some (.int x1), some (.ref q2), some (.int x3)] [] h (qN (fun h' => wS h' ∧ hk h0 h' ∧ IV h'))) := by
  intro n
  induction n with
  | zero => refine ⟨?_, ?_, ?_, ?_, ?_⟩ <;> (intros; exact pt_z)
  | succ n ih =>
    obtain ⟨ih66_0, ih66_28, ih66_91, ih66_120, ih66_143⟩ := ih
    refine ⟨?_, ?_, ?_, ?_, ?_⟩
    · intro h0 h x1 S G I
      obtain ⟨a1, z1⟩ : ∃ a : Int, x1.toInt = a := ⟨_, rfl⟩
      refine pt_1 (fun n d => r_aloadn gx66_0 rfl) ?_
      refine pt_d (pt_getR gx66_1 S tr_48_2 ?_)
      refine pt_d (pt_1 (fun n d => r_iloadn gx66_4 rfl) ?_)
      refine pt_d (pt_1 (fun n d => r_aloadn gx66_5 rfl) ?_)
      refine pt_d (pt_getR gx66_6 S tr_48_0 ?_)
      refine pt_d (pt_getI (B := 0) gx66_9 S (fun v1003 h1003 => ?_))
      refine pt_d (pt_virt (as := [.int x1, .int v1003]) (r := []) gx66_12 rfl (show zmt[1]? = some zM1 from rfl) rfl rfl rfl rfl (wk_1 S z1 h1003 I) (kqR (fun q1004 h_1004 P1004 => ?_)))
      have S1004 := P1004.1
      have G1004 := hk_t G P1004.2.1
      have I1004 := P1004.2.2
      show Pt _ _ _ 15 _ [.ref q1004] _ _
      refine pt_d (pt_1 (fun n d => r_astoren (L' := [some (.ref 48), some (.int x1), some (.ref q1004), none]) gx66_15 rfl rfl) ?_)
      refine pt_d (pt_1 (fun n d => r_aloadn gx66_16 rfl) ?_)
      refine pt_d (pt_iconst gx66_17 (fun v1005 h1005 => ?_))
      refine pt_d (pt_putIh (B := 13) gx66_18 S1004 h1005 (fun h_1006 S1006 e1006 K1006 => ?_))
      have G1006 := hk_t G1004 K1006
      have I1006 := IV_uf I1004 K1006 e1006 (by decide)
      refine pt_d (pt_1 (fun n d => r_aloadn gx66_21 rfl) ?_)
      refine pt_d (pt_iconst gx66_22 (fun v1007 h1007 => ?_))
      refine pt_d (pt_putIh (B := 14) gx66_23 S1006 h1007 (fun h_1008 S1008 e1008 K1008 => ?_))
      have G1008 := hk_t G1006 K1008
      have I1008 := IV_uf I1006 K1008 e1008 (by decide)
      refine pt_d (pt_iconst gx66_26 (fun v1009 h1009 => ?_))
      refine pt_d (pt_1 (fun n d => r_istoren (L' := [some (.ref 48), some (.int x1), some (.ref q1004), some (.int v1009)]) gx66_27 rfl rfl) ?_)
      exact ih66_28 h0 h_1008 x1 q1004 v1009 S1008 G1008 I1008
    · intro h0 h x1 q2 x3 S G I
      obtain ⟨a1, z1⟩ : ∃ a : Int, x1.toInt = a := ⟨_, rfl⟩
      obtain ⟨a3, z3⟩ : ∃ a : Int, x3.toInt = a := ⟨_, rfl⟩
      refine pt_1 (fun n d => r_iloadn gx66_28 rfl) ?_
      refine pt_d (pt_1 (fun n d => r_aloadn gx66_29 rfl) ?_)
      refine pt_d (pt_getR gx66_30 S tr_48_0 ?_)
      refine pt_d (pt_getI (B := 1) gx66_33 S (fun v1002 h1002 => ?_))
      refine pt_d (pt_icmp_ge gx66_36 z3 h1002 (fun e1003 => ?_) (fun e1003 => ?_))
      · skip
        refine pt_d (pt_1 (fun n d => r_aloadn gx66_126 rfl) ?_)
        refine pt_d (pt_getI (B := 13) gx66_127 S (fun v1004 h1004 => ?_))
        refine pt_d (pt_if_ne gx66_130 h1004 (fun e1005 => ?_) (fun e1005 => ?_))
        · skip
          exact ih66_143 h0 h x1 q2 x3 S G I
        · skip
          refine pt_d (pt_1 (fun n d => r_aloadn gx66_133 rfl) ?_)
          refine pt_d (pt_iconst gx66_134 (fun v1006 h1006 => ?_))
          refine pt_d (pt_putIh (B := 15) gx66_135 S h1006 (fun h_1007 S1007 e1007 K1007 => ?_))
          have G1007 := hk_t G K1007
          have I1007 := IV_uf I K1007 e1007 (by decide)
          refine pt_d (pt_1 (fun n d => r_aloadn gx66_138 rfl) ?_)
          refine pt_d (pt_iconst gx66_139 (fun v1008 h1008 => ?_))
          refine pt_d (pt_putIh (B := 16) gx66_140 S1007 h1008 (fun h_1009 S1009 e1009 K1009 => ?_))
          have G1009 := hk_t G1007 K1009
          have I1009 := IV_uf I1007 K1009 e1009 (by decide)
          exact ih66_143 h0 h_1009 x1 q2 x3 S1009 G1009 I1009
      · skip
        refine pt_d (pt_1 (fun n d => r_aloadn gx66_39 rfl) ?_)
        refine pt_d (pt_getR gx66_40 S tr_48_0 ?_)
        refine pt_d (pt_1 (fun n d => r_iloadn gx66_43 rfl) ?_)
        refine pt_d (pt_virt (as := [.int x3]) (r := []) gx66_44 rfl (show zmt[75]? = some zM75 from rfl) rfl rfl rfl rfl (c_75 S z3) (kqP (fun v1011 h1011 => ?_)))
        show Pt _ _ _ 47 _ [.int v1011] _ _
        refine pt_d (pt_ifB_eq gx66_47 h1011 (fun e1012 => ?_) (fun e1012 => ?_))
        · skip
          exact ih66_120 h0 h x1 q2 x3 S G I
        · skip
          refine pt_d (pt_1 (fun n d => r_aloadn gx66_50 rfl) ?_)
          refine pt_d (pt_getR gx66_51 S tr_48_1 ?_)
          refine pt_d (pt_1 (fun n d => r_iloadn gx66_54 rfl) ?_)
          refine pt_d (pt_1 (fun n d => r_iloadn gx66_55 rfl) ?_)
          refine pt_d (pt_virt (as := [.int x3, .int x1]) (r := []) gx66_56 rfl (show zmt[36]? = some zM36 from rfl) rfl rfl rfl rfl (wk_36 S z3 z1 I) (kqI (fun v1014 y1014 h_1014 h1014 P1014 => ?_)))
          have S1014 := P1014.1
          have G1014 := hk_t G P1014.2.1
          have I1014 := P1014.2.2
          show Pt _ _ _ 59 _ [.int v1014] _ _
          refine pt_d (pt_if_eq gx66_59 h1014 (fun e1015 => ?_) (fun e1015 => ?_))
          · skip
            exact ih66_120 h0 h_1014 x1 q2 x3 S1014 G1014 I1014
          · skip
            refine pt_d (pt_1 (fun n d => r_aloadn gx66_62 rfl) ?_)
            refine pt_d (pt_1 (fun n d => r_dup gx66_63 rfl) ?_)
            refine pt_d (pt_getI (B := 13) gx66_64 S1014 (fun v1016 h1016 => ?_))
            refine pt_d (pt_iconst gx66_67 (fun v1017 h1017 => ?_))
            refine pt_d (pt_iadd gx66_68 h1016 h1017 (fun v1018 h1018 => ?_))
            refine pt_d (pt_putIh (B := 13) gx66_69 S1014 h1018 (fun h_1019 S1019 e1019 K1019 => ?_))
            have G1019 := hk_t G1014 K1019
            have I1019 := IV_uf I1014 K1019 e1019 (by decide)
            refine pt_d (pt_1 (fun n d => r_aloadn gx66_72 rfl) ?_)
            refine pt_d (pt_1 (fun n d => r_dup gx66_73 rfl) ?_)
            refine pt_d (pt_getI (B := 14) gx66_74 S1019 (fun v1020 h1020 => ?_))
            have h1020 : v1020.toInt = vw h_1014 48 14 := by rw [h1020, e1019, up_j (by decide)]
            refine pt_d (pt_1 (fun n d => r_aloadn gx66_77 rfl) ?_)
            refine pt_d (pt_1 (fun n d => r_iloadn gx66_78 rfl) ?_)
            refine pt_d (pt_virt (as := [.int x3]) (r := [.int v1020, .ref 48]) gx66_79 rfl (show zmt[102]? = some zM102 from rfl) rfl rfl rfl rfl (wk_102 S1019 z3 I1019) (kqI (fun v1021 y1021 h_1021 h1021 P1021 => ?_)))
            have S1021 := P1021.1
            have G1021 := hk_t G1019 P1021.2.1
            have I1021 := P1021.2.2
            show Pt _ _ _ 82 _ [.int v1021, .int v1020, .ref 48] _ _
            refine pt_d (pt_iconst gx66_82 (fun v1022 h1022 => ?_))
            refine pt_d (pt_icmp_le gx66_83 h1021 h1022 (fun e1023 => ?_) (fun e1023 => ?_))
            · skip
              refine pt_d (pt_iconst gx66_90 (fun v1024 h1024 => ?_))
              exact ih66_91 h0 h_1021 x1 q2 x3 v1020 v1024 S1021 G1021 I1021
            · skip
              refine pt_d (pt_iconst gx66_86 (fun v1025 h1025 => ?_))
              refine pt_d (pt_1 (fun n d => r_goto gx66_87) ?_)
              exact ih66_91 h0 h_1021 x1 q2 x3 v1020 v1025 S1021 G1021 I1021
    · intro h0 h x1 q2 x3 xs1 xs2 S G I
      obtain ⟨a1, z1⟩ : ∃ a : Int, x1.toInt = a := ⟨_, rfl⟩
      obtain ⟨a3, z3⟩ : ∃ a : Int, x3.toInt = a := ⟨_, rfl⟩
      obtain ⟨as1, zs1⟩ : ∃ a : Int, xs1.toInt = a := ⟨_, rfl⟩
      obtain ⟨as2, zs2⟩ : ∃ a : Int, xs2.toInt = a := ⟨_, rfl⟩
      refine pt_iadd gx66_91 zs1 zs2 (fun v1001 h1001 => ?_)
      refine pt_d (pt_putIh (B := 14) gx66_92 S h1001 (fun h_1002 S1002 e1002 K1002 => ?_))
      have G1002 := hk_t G K1002
      have I1002 := IV_uf I K1002 e1002 (by decide)
      refine pt_d (pt_1 (fun n d => r_aloadn gx66_95 rfl) ?_)
      refine pt_d (pt_getI (B := 13) gx66_96 S1002 (fun v1003 h1003 => ?_))
      have h1003 : v1003.toInt = vw h 48 13 := by rw [h1003, e1002, up_j (by decide)]
      refine pt_d (pt_bipush gx66_99 (fun v1004 h1004 => ?_))
      refine pt_d (pt_icmp_gt gx66_101 h1003 h1004 (fun e1005 => ?_) (fun e1005 => ?_))
      · skip
        exact ih66_120 h0 h_1002 x1 q2 x3 S1002 G1002 I1002
      · skip
        refine pt_d (pt_1 (fun n d => r_aloadn gx66_104 rfl) ?_)
        refine pt_d (pt_1 (fun n d => r_aloadn gx66_105 rfl) ?_)
        refine pt_d (pt_getI (B := 13) gx66_106 S1002 (fun v1006 h1006 => ?_))
        have h1006 : v1006.toInt = vw h 48 13 := by rw [h1006, e1002, up_j (by decide)]
        refine pt_d (pt_putIh (B := 15) gx66_109 S1002 h1006 (fun h_1007 S1007 e1007 K1007 => ?_))
        have G1007 := hk_t G1002 K1007
        have I1007 := IV_uf I1002 K1007 e1007 (by decide)
        refine pt_d (pt_1 (fun n d => r_aloadn gx66_112 rfl) ?_)
        refine pt_d (pt_1 (fun n d => r_aloadn gx66_113 rfl) ?_)
        refine pt_d (pt_getI (B := 14) gx66_114 S1007 (fun v1008 h1008 => ?_))
        have h1008 : v1008.toInt = w32 (as1 + as2) := by rw [h1008, e1007, up_j (by decide), e1002, up_s]
        refine pt_d (pt_putIh (B := 16) gx66_117 S1007 h1008 (fun h_1009 S1009 e1009 K1009 => ?_))
        have G1009 := hk_t G1007 K1009
        have I1009 := IV_uf I1007 K1009 e1009 (by decide)
        exact ih66_120 h0 h_1009 x1 q2 x3 S1009 G1009 I1009
    · intro h0 h x1 q2 x3 S G I
      obtain ⟨a1, z1⟩ : ∃ a : Int, x1.toInt = a := ⟨_, rfl⟩
      obtain ⟨a3, z3⟩ : ∃ a : Int, x3.toInt = a := ⟨_, rfl⟩
      refine pt_iinc (c := 1) gx66_120 rfl z3 (fun v1001 h1001 => ?_)
      show Pt _ _ _ _ [some (.ref 48), some (.int x1), some (.ref q2), some (.int v1001)] [] _ _
      refine pt_d (pt_1 (fun n d => r_goto gx66_123) ?_)
      exact ih66_28 h0 h x1 q2 v1001 S G I
    · intro h0 h x1 q2 x3 S G I
      obtain ⟨a1, z1⟩ : ∃ a : Int, x1.toInt = a := ⟨_, rfl⟩
      obtain ⟨a3, z3⟩ : ∃ a : Int, x3.toInt = a := ⟨_, rfl⟩
      exact pt_vret gx66_143 ⟨rfl, S, G, I⟩
theorem wk_66 {n : Nat} {X : aX} {h : aH} {x1 : Int32} {a1 : Int} (S : wS h) (z1 : x1.toInt = a1) (I : IV h) : Pt n X zM66 0 [some (.ref 48), some (.int x1), none, none] [] h (qN (fun h' => wS h' ∧ hk h h' ∧ IV h')) := (wl_66 n).1 h h x1 S (hk_r h) I
theorem wl_69 {X : aX} : ∀ n : Nat, (∀ (h0 h : aH) (x0 : Int64) (x2 : Int32), wS h → hk h0 h → IV h → Pt n X zM69 0 [some (.long x0), none, some (.int x2), none, none, none] [] h (qJ (fun _ h' => wS h' ∧ hk h0 h' ∧ IV h'))) ∧
    (∀ (h0 h : aH) (x0 : Int64) (x2 : Int32) (x3 : Int64) (x5 : Int32), wS h → hk h0 h → IV h → Pt n X zM69 5 [some (.long x0), none, some (.int x2), some (.long x3), none, some (.int x5)] [] h (qJ (fun _ h' => wS h' ∧ hk h0 h' ∧ IV h'))) := by
  intro n
  induction n with
  | zero => refine ⟨?_, ?_⟩ <;> (intros; exact pt_z)
  | succ n ih =>
    obtain ⟨ih69_0, ih69_5⟩ := ih
    refine ⟨?_, ?_⟩
    · intro h0 h x0 x2 S G I
      obtain ⟨a0, z0⟩ : ∃ a : Int, x0.toInt = a := ⟨_, rfl⟩
      obtain ⟨a2, z2⟩ : ∃ a : Int, x2.toInt = a := ⟨_, rfl⟩
      refine pt_lconst (c := 1) gx69_0 rfl (fun v1001 h1001 => ?_)
      refine pt_d (pt_1 (fun n d => r_lstoren (L' := [some (.long x0), none, some (.int x2), some (.long v1001), none, none]) gx69_1 rfl rfl) ?_)
      refine pt_d (pt_iconst gx69_2 (fun v1002 h1002 => ?_))
      refine pt_d (pt_1 (fun n d => r_istore (L' := [some (.long x0), none, some (.int x2), some (.long v1001), none, some (.int v1002)]) gx69_3 rfl rfl) ?_)
      exact ih69_5 h0 h x0 x2 v1001 v1002 S G I
    · intro h0 h x0 x2 x3 x5 S G I
      obtain ⟨a0, z0⟩ : ∃ a : Int, x0.toInt = a := ⟨_, rfl⟩
      obtain ⟨a2, z2⟩ : ∃ a : Int, x2.toInt = a := ⟨_, rfl⟩
      obtain ⟨a3, z3⟩ : ∃ a : Int, x3.toInt = a := ⟨_, rfl⟩
      obtain ⟨a5, z5⟩ : ∃ a : Int, x5.toInt = a := ⟨_, rfl⟩
      refine pt_1 (fun n d => r_iload gx69_5 rfl) ?_
      refine pt_d (pt_1 (fun n d => r_iloadn gx69_7 rfl) ?_)
      refine pt_d (pt_icmp_ge gx69_8 z5 z2 (fun e1001 => ?_) (fun e1001 => ?_))
      · skip
        refine pt_d (pt_1 (fun n d => r_lloadn gx69_21 rfl) ?_)
        exact pt_d (pt_lret gx69_22 ⟨_, rfl, S, G, I⟩)
      · skip
        refine pt_d (pt_1 (fun n d => r_lloadn gx69_11 rfl) ?_)
        refine pt_d (pt_1 (fun n d => r_lloadn gx69_12 rfl) ?_)
        refine pt_d (pt_lmul gx69_13 z3 z0 (fun v1002 h1002 => ?_))
        refine pt_d (pt_1 (fun n d => r_lstoren (L' := [some (.long x0), none, some (.int x2), some (.long v1002), none, some (.int x5)]) gx69_14 rfl rfl) ?_)
        refine pt_d (pt_iinc (c := 1) gx69_15 rfl z5 (fun v1003 h1003 => ?_))
        show Pt _ _ _ _ [some (.long x0), none, some (.int x2), some (.long v1002), none, some (.int v1003)] [] _ _
        refine pt_d (pt_1 (fun n d => r_goto gx69_18) ?_)
        exact ih69_5 h0 h x0 x2 v1002 v1003 S G I
theorem wk_69 {n : Nat} {X : aX} {h : aH} {x0 : Int64} {x2 : Int32} {a0 : Int} {a2 : Int} (S : wS h) (z0 : x0.toInt = a0) (z2 : x2.toInt = a2) (I : IV h) : Pt n X zM69 0 [some (.long x0), none, some (.int x2), none, none, none] [] h (qJ (fun _ h' => wS h' ∧ hk h h' ∧ IV h')) := (wl_69 n).1 h h x0 x2 S (hk_r h) I
theorem wl_68 {X : aX} : ∀ n : Nat, (∀ (h0 h : aH) (x1 : Int32) (x2 : Int32) (x3 : Int32), wS h → hk h0 h → IV h → Pt n X zM68 0 [some (.ref 48), some (.int x1), some (.int x2), some (.int x3), none, none, none, none, none] [] h (qJ (fun _ h' => wS h' ∧ hk h0 h' ∧ IV h'))) ∧
    (∀ (h0 h : aH) (x1 : Int32) (x2 : Int32) (x3 : Int32) (x4 : Int64) (x6 : Int64) (x8 : Int32), wS h → hk h0 h → IV h → Pt n X zM68 9 [some (.ref 48), some (.int x1), some (.int x2), some (.int x3), some (.long x4), none, some (.long x6), none, some (.int x8)] [] h (qJ (fun _ h' => wS h' ∧ hk h0 h' ∧ IV h'))) := by
  intro n
  induction n with
  | zero => refine ⟨?_, ?_⟩ <;> (intros; exact pt_z)
  | succ n ih =>
    obtain ⟨ih68_0, ih68_9⟩ := ih
    refine ⟨?_, ?_⟩
    · intro h0 h x1 x2 x3 S G I
      obtain ⟨a1, z1⟩ : ∃ a : Int, x1.toInt = a := ⟨_, rfl⟩
      obtain ⟨a2, z2⟩ : ∃ a : Int, x2.toInt = a := ⟨_, rfl⟩
      obtain ⟨a3, z3⟩ : ∃ a : Int, x3.toInt = a := ⟨_, rfl⟩
      refine pt_lconst (c := 0) gx68_0 rfl (fun v1001 h1001 => ?_)
      refine pt_d (pt_1 (fun n d => r_lstore (L' := [some (.ref 48), some (.int x1), some (.int x2), some (.int x3), some (.long v1001), none, none, none, none]) gx68_1 rfl rfl) ?_)
      refine pt_d (pt_lconst (c := 1) gx68_3 rfl (fun v1002 h1002 => ?_))
      refine pt_d (pt_1 (fun n d => r_lstore (L' := [some (.ref 48), some (.int x1), some (.int x2), some (.int x3), some (.long v1001), none, some (.long v1002), none, none]) gx68_4 rfl rfl) ?_)
      refine pt_d (pt_iconst gx68_6 (fun v1003 h1003 => ?_))
      refine pt_d (pt_1 (fun n d => r_istore (L' := [some (.ref 48), some (.int x1), some (.int x2), some (.int x3), some (.long v1001), none, some (.long v1002), none, some (.int v1003)]) gx68_7 rfl rfl) ?_)
      exact ih68_9 h0 h x1 x2 x3 v1001 v1002 v1003 S G I
    · intro h0 h x1 x2 x3 x4 x6 x8 S G I
      obtain ⟨a1, z1⟩ : ∃ a : Int, x1.toInt = a := ⟨_, rfl⟩
      obtain ⟨a2, z2⟩ : ∃ a : Int, x2.toInt = a := ⟨_, rfl⟩
      obtain ⟨a3, z3⟩ : ∃ a : Int, x3.toInt = a := ⟨_, rfl⟩
      obtain ⟨a4, z4⟩ : ∃ a : Int, x4.toInt = a := ⟨_, rfl⟩
      obtain ⟨a6, z6⟩ : ∃ a : Int, x6.toInt = a := ⟨_, rfl⟩
      obtain ⟨a8, z8⟩ : ∃ a : Int, x8.toInt = a := ⟨_, rfl⟩
      refine pt_1 (fun n d => r_iload gx68_9 rfl) ?_
      refine pt_d (pt_1 (fun n d => r_aloadn gx68_11 rfl) ?_)
      refine pt_d (pt_getI (B := 15) gx68_12 S (fun v1001 h1001 => ?_))
      refine pt_d (pt_icmp_gt gx68_15 z8 h1001 (fun e1002 => ?_) (fun e1002 => ?_))
      · skip
        refine pt_d (pt_1 (fun n d => r_lload gx68_84 rfl) ?_)
        exact pt_d (pt_lret gx68_86 ⟨_, rfl, S, G, I⟩)
      · skip
        refine pt_d (pt_1 (fun n d => r_iload gx68_18 rfl) ?_)
        refine pt_d (pt_1 (fun n d => r_iloadn gx68_20 rfl) ?_)
        refine pt_d (pt_1 (fun n d => r_iloadn gx68_21 rfl) ?_)
        refine pt_d (pt_stat (as := [.int x8, .int x1, .int x2]) (r := []) gx68_22 rfl (show zmt[137]? = some zM137 from rfl) rfl rfl rfl rfl (c_137 S z8 z1 z2) (kqP (fun v1003 h1003 => ?_)))
        show Pt _ _ _ 25 _ [.int v1003] _ _
        refine pt_d (pt_ifB_eq gx68_25 h1003 (fun e1004 => ?_) (fun e1004 => ?_))
        · skip
          refine pt_d (pt_1 (fun n d => r_lload gx68_59 rfl) ?_)
          refine pt_d (pt_1 (fun n d => r_aloadn gx68_61 rfl) ?_)
          refine pt_d (pt_getI (B := 15) gx68_62 S (fun v1005 h1005 => ?_))
          refine pt_d (pt_1 (fun n d => r_iload gx68_65 rfl) ?_)
          refine pt_d (pt_isub gx68_67 h1005 z8 (fun v1006 h1006 => ?_))
          refine pt_d (pt_i2l gx68_68 h1006 (fun v1007 h1007 => ?_))
          refine pt_d (pt_lmul gx68_69 z6 h1007 (fun v1008 h1008 => ?_))
          refine pt_d (pt_1 (fun n d => r_iload gx68_70 rfl) ?_)
          refine pt_d (pt_iconst gx68_72 (fun v1009 h1009 => ?_))
          refine pt_d (pt_iadd gx68_73 z8 h1009 (fun v1010 h1010 => ?_))
          refine pt_d (pt_i2l gx68_74 h1010 (fun v1011 h1011 => ?_))
          refine pt_d (pt_ldiv gx68_75 h1008 h1011 (fun v1012 h1012 => ?_))
          refine pt_d (pt_1 (fun n d => r_lstore (L' := [some (.ref 48), some (.int x1), some (.int x2), some (.int x3), some (.long x4), none, some (.long v1012), none, some (.int x8)]) gx68_76 rfl rfl) ?_)
          refine pt_d (pt_iinc (c := 1) gx68_78 rfl z8 (fun v1013 h1013 => ?_))
          show Pt _ _ _ _ [some (.ref 48), some (.int x1), some (.int x2), some (.int x3), some (.long x4), none, some (.long v1012), none, some (.int v1013)] [] _ _
          refine pt_d (pt_1 (fun n d => r_goto gx68_81) ?_)
          exact ih68_9 h0 h x1 x2 x3 x4 v1012 v1013 S G I
        · skip
          refine pt_d (pt_1 (fun n d => r_lload gx68_28 rfl) ?_)
          refine pt_d (pt_1 (fun n d => r_lload gx68_30 rfl) ?_)
          refine pt_d (pt_1 (fun n d => r_iloadn gx68_32 rfl) ?_)
          refine pt_d (pt_i2l gx68_33 z3 (fun v1014 h1014 => ?_))
          refine pt_d (pt_1 (fun n d => r_iload gx68_34 rfl) ?_)
          refine pt_d (pt_stat (as := [.long v1014, .int x8]) (r := [.long x6, .long x4]) gx68_36 rfl (show zmt[69]? = some zM69 from rfl) rfl rfl rfl rfl (wk_69 S h1014 z8 I) (kqJ (fun v1015 y1015 h_1015 h1015 P1015 => ?_)))
          have S1015 := P1015.1
          have G1015 := hk_t G P1015.2.1
          have I1015 := P1015.2.2
          show Pt _ _ _ 39 _ [.long v1015, .long x6, .long x4] _ _
          refine pt_d (pt_lmul gx68_39 z6 h1015 (fun v1016 h1016 => ?_))
          refine pt_d (pt_bipush gx68_40 (fun v1017 h1017 => ?_))
          refine pt_d (pt_1 (fun n d => r_iloadn gx68_42 rfl) ?_)
          refine pt_d (pt_isub gx68_43 h1017 z3 (fun v1018 h1018 => ?_))
          refine pt_d (pt_i2l gx68_44 h1018 (fun v1019 h1019 => ?_))
          refine pt_d (pt_1 (fun n d => r_aloadn gx68_45 rfl) ?_)
          refine pt_d (pt_getI (B := 15) gx68_46 S1015 (fun v1020 h1020 => ?_))
          refine pt_d (pt_1 (fun n d => r_iload gx68_49 rfl) ?_)
          refine pt_d (pt_isub gx68_51 h1020 z8 (fun v1021 h1021 => ?_))
          refine pt_d (pt_stat (as := [.long v1019, .int v1021]) (r := [.long v1016, .long x4]) gx68_52 rfl (show zmt[69]? = some zM69 from rfl) rfl rfl rfl rfl (wk_69 S1015 h1019 h1021 I1015) (kqJ (fun v1022 y1022 h_1022 h1022 P1022 => ?_)))
          have S1022 := P1022.1
          have G1022 := hk_t G1015 P1022.2.1
          have I1022 := P1022.2.2
          show Pt _ _ _ 55 _ [.long v1022, .long v1016, .long x4] _ _
          refine pt_d (pt_lmul gx68_55 h1016 h1022 (fun v1023 h1023 => ?_))
          refine pt_d (pt_ladd gx68_56 z4 h1023 (fun v1024 h1024 => ?_))
          refine pt_d (pt_1 (fun n d => r_lstore (L' := [some (.ref 48), some (.int x1), some (.int x2), some (.int x3), some (.long v1024), none, some (.long x6), none, some (.int x8)]) gx68_57 rfl rfl) ?_)
          refine pt_d (pt_1 (fun n d => r_lload gx68_59 rfl) ?_)
          refine pt_d (pt_1 (fun n d => r_aloadn gx68_61 rfl) ?_)
          refine pt_d (pt_getI (B := 15) gx68_62 S1022 (fun v1025 h1025 => ?_))
          refine pt_d (pt_1 (fun n d => r_iload gx68_65 rfl) ?_)
          refine pt_d (pt_isub gx68_67 h1025 z8 (fun v1026 h1026 => ?_))
          refine pt_d (pt_i2l gx68_68 h1026 (fun v1027 h1027 => ?_))
          refine pt_d (pt_lmul gx68_69 z6 h1027 (fun v1028 h1028 => ?_))
          refine pt_d (pt_1 (fun n d => r_iload gx68_70 rfl) ?_)
          refine pt_d (pt_iconst gx68_72 (fun v1029 h1029 => ?_))
          refine pt_d (pt_iadd gx68_73 z8 h1029 (fun v1030 h1030 => ?_))
          refine pt_d (pt_i2l gx68_74 h1030 (fun v1031 h1031 => ?_))
          refine pt_d (pt_ldiv gx68_75 h1028 h1031 (fun v1032 h1032 => ?_))
          refine pt_d (pt_1 (fun n d => r_lstore (L' := [some (.ref 48), some (.int x1), some (.int x2), some (.int x3), some (.long v1024), none, some (.long v1032), none, some (.int x8)]) gx68_76 rfl rfl) ?_)
          refine pt_d (pt_iinc (c := 1) gx68_78 rfl z8 (fun v1033 h1033 => ?_))
          show Pt _ _ _ _ [some (.ref 48), some (.int x1), some (.int x2), some (.int x3), some (.long v1024), none, some (.long v1032), none, some (.int v1033)] [] _ _
          refine pt_d (pt_1 (fun n d => r_goto gx68_81) ?_)
          exact ih68_9 h0 h_1022 x1 x2 x3 v1024 v1032 v1033 S1022 G1022 I1022
theorem wk_68 {n : Nat} {X : aX} {h : aH} {x1 : Int32} {x2 : Int32} {x3 : Int32} {a1 : Int} {a2 : Int} {a3 : Int} (S : wS h) (z1 : x1.toInt = a1) (z2 : x2.toInt = a2) (z3 : x3.toInt = a3) (I : IV h) : Pt n X zM68 0 [some (.ref 48), some (.int x1), some (.int x2), some (.int x3), none, none, none, none, none] [] h (qJ (fun _ h' => wS h' ∧ hk h h' ∧ IV h')) := (wl_68 n).1 h h x1 x2 x3 S (hk_r h) I

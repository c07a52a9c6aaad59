-- ===== weak contracts =====
theorem wl_100 {X : aX} : ∀ n : Nat, (∀ (h0 h : aH) (q0 : Nat) (x1 : Int32), wS h → hk h0 h → IV h → Pt n X zM100 0 [some (.ref q0), some (.int x1)] [] h (qI (fun _ h' => wS h' ∧ hk h0 h' ∧ IV h'))) := by
  intro n
  induction n with
  | zero => refine ?_ <;> (intros; exact pt_z)
  | succ n ih =>
    have ih100_0 := ih
    refine ?_
    · intro h0 h q0 x1 S G I
      obtain ⟨a1, z1⟩ : ∃ a : Int, x1.toInt = a := ⟨_, rfl⟩
      refine pt_1 (fun n d => r_aloadn gx100_0 rfl) ?_
      refine pt_d (pt_getD (B := 1) gx100_1 S (fun k1001 => ?_) (fun q1001 k1001 => ?_))
      · skip
        exact pt_d (pt_getN gx100_4)
      · skip
        refine pt_d (pt_getD (B := 4) gx100_4 S (fun k1003 => ?_) (fun q1003 k1003 => ?_))
        · skip
          refine pt_d (pt_1 (fun n d => r_aloadn gx100_7 rfl) ?_)
          refine pt_d (pt_getD (B := 6) gx100_8 S (fun k1004 => ?_) (fun q1004 k1004 => ?_))
          · skip
            refine pt_d (pt_1 (fun n d => r_iloadn gx100_11 rfl) ?_)
            exact pt_d (pt_ialdN gx100_12)
          · skip
            refine pt_d (pt_1 (fun n d => r_iloadn gx100_11 rfl) ?_)
            refine pt_d (pt_ialdD gx100_12 z1 (fun v1006 p1006 h1006 => ?_))
            exact pt_d (pt_ialdN gx100_13)
        · skip
          refine pt_d (pt_1 (fun n d => r_aloadn gx100_7 rfl) ?_)
          refine pt_d (pt_getD (B := 6) gx100_8 S (fun k1008 => ?_) (fun q1008 k1008 => ?_))
          · skip
            refine pt_d (pt_1 (fun n d => r_iloadn gx100_11 rfl) ?_)
            exact pt_d (pt_ialdN gx100_12)
          · skip
            refine pt_d (pt_1 (fun n d => r_iloadn gx100_11 rfl) ?_)
            refine pt_d (pt_ialdD gx100_12 z1 (fun v1010 p1010 h1010 => ?_))
            refine pt_d (pt_ialdD gx100_13 h1010 (fun v1011 p1011 h1011 => ?_))
            exact pt_d (pt_iret gx100_14 ⟨_, rfl, S, G, I⟩)
theorem wk_100 {n : Nat} {X : aX} {h : aH} {q0 : Nat} {x1 : Int32} {a1 : Int} (S : wS h) (z1 : x1.toInt = a1) (I : IV h) : Pt n X zM100 0 [some (.ref q0), some (.int x1)] [] h (qI (fun _ h' => wS h' ∧ hk h h' ∧ IV h')) := (wl_100 n) h h q0 x1 S (hk_r h) I
theorem wl_101 {X : aX} : ∀ n : Nat, (∀ (h0 h : aH) (q0 : Nat) (x1 : Int32), wS h → hk h0 h → IV h → Pt n X zM101 0 [some (.ref q0), some (.int x1)] [] h (qI (fun _ h' => wS h' ∧ hk h0 h' ∧ IV h'))) := by
  intro n
  induction n with
  | zero => refine ?_ <;> (intros; exact pt_z)
  | succ n ih =>
    have ih101_0 := ih
    refine ?_
    · intro h0 h q0 x1 S G I
      obtain ⟨a1, z1⟩ : ∃ a : Int, x1.toInt = a := ⟨_, rfl⟩
      refine pt_1 (fun n d => r_aloadn gx101_0 rfl) ?_
      refine pt_d (pt_getD (B := 1) gx101_1 S (fun k1001 => ?_) (fun q1001 k1001 => ?_))
      · skip
        exact pt_d (pt_getN gx101_4)
      · skip
        refine pt_d (pt_getD (B := 5) gx101_4 S (fun k1003 => ?_) (fun q1003 k1003 => ?_))
        · skip
          refine pt_d (pt_1 (fun n d => r_aloadn gx101_7 rfl) ?_)
          refine pt_d (pt_getD (B := 6) gx101_8 S (fun k1004 => ?_) (fun q1004 k1004 => ?_))
          · skip
            refine pt_d (pt_1 (fun n d => r_iloadn gx101_11 rfl) ?_)
            exact pt_d (pt_ialdN gx101_12)
          · skip
            refine pt_d (pt_1 (fun n d => r_iloadn gx101_11 rfl) ?_)
            refine pt_d (pt_ialdD gx101_12 z1 (fun v1006 p1006 h1006 => ?_))
            exact pt_d (pt_ialdN gx101_13)
        · skip
          refine pt_d (pt_1 (fun n d => r_aloadn gx101_7 rfl) ?_)
          refine pt_d (pt_getD (B := 6) gx101_8 S (fun k1008 => ?_) (fun q1008 k1008 => ?_))
          · skip
            refine pt_d (pt_1 (fun n d => r_iloadn gx101_11 rfl) ?_)
            exact pt_d (pt_ialdN gx101_12)
          · skip
            refine pt_d (pt_1 (fun n d => r_iloadn gx101_11 rfl) ?_)
            refine pt_d (pt_ialdD gx101_12 z1 (fun v1010 p1010 h1010 => ?_))
            refine pt_d (pt_ialdD gx101_13 h1010 (fun v1011 p1011 h1011 => ?_))
            exact pt_d (pt_iret gx101_14 ⟨_, rfl, S, G, I⟩)
theorem wk_101 {n : Nat} {X : aX} {h : aH} {q0 : Nat} {x1 : Int32} {a1 : Int} (S : wS h) (z1 : x1.toInt = a1) (I : IV h) : Pt n X zM101 0 [some (.ref q0), some (.int x1)] [] h (qI (fun _ h' => wS h' ∧ hk h h' ∧ IV h')) := (wl_101 n) h h q0 x1 S (hk_r h) I
theorem wl_332 {X : aX} : ∀ n : Nat, (∀ (h0 h : aH) (x1 : Int32), wS h → hk h0 h → IV h → Pt n X zM332 0 [some (.ref 44), some (.int x1), none, none] [] h (qN (fun h' => wS h' ∧ hk h0 h' ∧ IV h'))) ∧
    (∀ (h0 h : aH) (x1 : Int32) (x2 : Int32) (x3 : Int32), wS h → hk h0 h → IV h → Pt n X zM332 5 [some (.ref 44), some (.int x1), some (.int x2), some (.int x3)] [] h (qN (fun h' => wS h' ∧ hk h0 h' ∧ IV h'))) := by
  intro n
  induction n with
  | zero => refine ⟨?_, ?_⟩ <;> (intros; exact pt_z)
  | succ n ih =>
    obtain ⟨ih332_0, ih332_5⟩ := ih
    refine ⟨?_, ?_⟩
    · intro h0 h x1 S G I
      obtain ⟨a1, z1⟩ : ∃ a : Int, x1.toInt = a := ⟨_, rfl⟩
      refine pt_iconst gx332_0 (fun v1001 h1001 => ?_)
      refine pt_d (pt_1 (fun n d => r_istoren (L' := [some (.ref 44), some (.int x1), some (.int v1001), none]) gx332_1 rfl rfl) ?_)
      refine pt_d (pt_1 (fun n d => r_aloadn gx332_2 rfl) ?_)
      refine pt_d (pt_alen (N' := 8) gx332_3 S tl_44 (fun v1002 h1002 => ?_))
      refine pt_d (pt_1 (fun n d => r_istoren (L' := [some (.ref 44), some (.int x1), some (.int v1001), some (.int v1002)]) gx332_4 rfl rfl) ?_)
      exact ih332_5 h0 h x1 v1001 v1002 S G I
    · intro h0 h x1 x2 x3 S G I
      obtain ⟨a1, z1⟩ : ∃ a : Int, x1.toInt = a := ⟨_, rfl⟩
      obtain ⟨a2, z2⟩ : ∃ a : Int, x2.toInt = a := ⟨_, rfl⟩
      obtain ⟨a3, z3⟩ : ∃ a : Int, x3.toInt = a := ⟨_, rfl⟩
      refine pt_1 (fun n d => r_iloadn gx332_5 rfl) ?_
      refine pt_d (pt_1 (fun n d => r_iloadn gx332_6 rfl) ?_)
      refine pt_d (pt_icmp_ge gx332_7 z2 z3 (fun e1001 => ?_) (fun e1001 => ?_))
      · skip
        exact pt_d (pt_vret gx332_20 ⟨rfl, S, G, I⟩)
      · skip
        refine pt_d (pt_1 (fun n d => r_aloadn gx332_10 rfl) ?_)
        refine pt_d (pt_1 (fun n d => r_iloadn gx332_11 rfl) ?_)
        refine pt_d (pt_1 (fun n d => r_iloadn gx332_12 rfl) ?_)
        refine pt_d (pt_iasth (N' := 8) gx332_13 S tl_44 z2 z1 (fun h_1002 S1002 p1002 q1002 e1002 K1002 => ?_))
        have G1002 := hk_t G K1002
        have I1002 := IV_ua I K1002 e1002 (by decide)
        refine pt_d (pt_iinc (c := 1) gx332_14 rfl z2 (fun v1003 h1003 => ?_))
        show Pt _ _ _ _ [some (.ref 44), some (.int x1), some (.int v1003), some (.int x3)] [] _ _
        refine pt_d (pt_1 (fun n d => r_goto gx332_17) ?_)
        exact ih332_5 h0 h_1002 x1 v1003 x3 S1002 G1002 I1002
theorem wk_332 {n : Nat} {X : aX} {h : aH} {x1 : Int32} {a1 : Int} (S : wS h) (z1 : x1.toInt = a1) (I : IV h) : Pt n X zM332 0 [some (.ref 44), some (.int x1), none, none] [] h (qN (fun h' => wS h' ∧ hk h h' ∧ IV h')) := (wl_332 n).1 h h x1 S (hk_r h) I
theorem wl_3 {X : aX} : ∀ n : Nat, (∀ (h0 h : aH) (q1 : Nat) (x2 : Int32), wS h → hk h0 h → IV h → Pt n X zM3 0 [some (.ref 41), some (.ref q1), some (.int x2), none, none] [] h (qI (fun _ h' => wS h' ∧ hk h0 h' ∧ IV h'))) ∧
    (∀ (h0 h : aH) (q1 : Nat) (x2 : Int32) (x3 : Int32) (x4 : Int32), wS h → hk h0 h → IV h → Pt n X zM3 13 [some (.ref 41), some (.ref q1), some (.int x2), some (.int x3), some (.int x4)] [] h (qI (fun _ h' => wS h' ∧ hk h0 h' ∧ IV h'))) := by
  intro n
  induction n with
  | zero => refine ⟨?_, ?_⟩ <;> (intros; exact pt_z)
  | succ n ih =>
    obtain ⟨ih3_0, ih3_13⟩ := ih
    refine ⟨?_, ?_⟩
    · intro h0 h q1 x2 S G I
      obtain ⟨a2, z2⟩ : ∃ a : Int, x2.toInt = a := ⟨_, rfl⟩
      refine pt_iconst gx3_0 (fun v1001 h1001 => ?_)
      refine pt_d (pt_1 (fun n d => r_istoren (L' := [some (.ref 41), some (.ref q1), some (.int x2), some (.int v1001), none]) gx3_1 rfl rfl) ?_)
      refine pt_d (pt_1 (fun n d => r_aloadn gx3_2 rfl) ?_)
      refine pt_d (pt_getR gx3_3 S tr_41_5 ?_)
      refine pt_d (pt_iconst gx3_6 (fun v1003 h1003 => ?_))
      refine pt_d (pt_stat (as := [.ref 44, .int v1003]) (r := []) gx3_7 rfl (show zmt[332]? = some zM332 from rfl) rfl rfl rfl rfl (wk_332 S h1003 I) (kqN (fun h_1004 P1004 => ?_)))
      have S1004 := P1004.1
      have G1004 := hk_t G P1004.2.1
      have I1004 := P1004.2.2
      show Pt _ _ _ 10 _ [] _ _
      refine pt_d (pt_iconst gx3_10 (fun v1005 h1005 => ?_))
      refine pt_d (pt_1 (fun n d => r_istore (L' := [some (.ref 41), some (.ref q1), some (.int x2), some (.int v1001), some (.int v1005)]) gx3_11 rfl rfl) ?_)
      exact ih3_13 h0 h_1004 q1 x2 v1001 v1005 S1004 G1004 I1004
    · intro h0 h q1 x2 x3 x4 S G I
      obtain ⟨a2, z2⟩ : ∃ a : Int, x2.toInt = a := ⟨_, rfl⟩
      obtain ⟨a3, z3⟩ : ∃ a : Int, x3.toInt = a := ⟨_, rfl⟩
      obtain ⟨a4, z4⟩ : ∃ a : Int, x4.toInt = a := ⟨_, rfl⟩
      refine pt_1 (fun n d => r_iload gx3_13 rfl) ?_
      refine pt_d (pt_1 (fun n d => r_aloadn gx3_15 rfl) ?_)
      refine pt_d (pt_getI (B := 5) gx3_16 S (fun v1001 h1001 => ?_))
      refine pt_d (pt_icmp_ge gx3_19 z4 h1001 (fun e1002 => ?_) (fun e1002 => ?_))
      · skip
        refine pt_d (pt_1 (fun n d => r_iloadn gx3_100 rfl) ?_)
        exact pt_d (pt_iret gx3_101 ⟨_, rfl, S, G, I⟩)
      · skip
        refine pt_d (pt_1 (fun n d => r_aloadn gx3_22 rfl) ?_)
        refine pt_d (pt_1 (fun n d => r_iload gx3_23 rfl) ?_)
        refine pt_d (pt_virt (as := [.int x4]) (r := []) gx3_25 rfl (show zmt[100]? = some zM100 from rfl) rfl rfl rfl rfl (wk_100 S z4 I) (kqI (fun v1003 y1003 h_1003 h1003 P1003 => ?_)))
        have S1003 := P1003.1
        have G1003 := hk_t G P1003.2.1
        have I1003 := P1003.2.2
        show Pt _ _ _ 28 _ [.int v1003] _ _
        refine pt_d (pt_1 (fun n d => r_iloadn gx3_28 rfl) ?_)
        refine pt_d (pt_icmp_ne gx3_29 h1003 z2 (fun e1004 => ?_) (fun e1004 => ?_))
        · skip
          refine pt_d (pt_iinc (c := 1) gx3_94 rfl z4 (fun v1005 h1005 => ?_))
          show Pt _ _ _ _ [some (.ref 41), some (.ref q1), some (.int x2), some (.int x3), some (.int v1005)] [] _ _
          refine pt_d (pt_1 (fun n d => r_goto gx3_97) ?_)
          exact ih3_13 h0 h_1003 q1 x2 x3 v1005 S1003 G1003 I1003
        · skip
          refine pt_d (pt_1 (fun n d => r_aloadn gx3_32 rfl) ?_)
          refine pt_d (pt_getR gx3_33 S1003 tr_41_5 ?_)
          refine pt_d (pt_1 (fun n d => r_aloadn gx3_36 rfl) ?_)
          refine pt_d (pt_getR gx3_37 S1003 tr_41_1 ?_)
          refine pt_d (pt_getR gx3_40 S1003 tr_16_6 ?_)
          refine pt_d (pt_1 (fun n d => r_aloadn gx3_43 rfl) ?_)
          refine pt_d (pt_getD (B := 6) gx3_44 S1003 (fun k1009 => ?_) (fun q1009 k1009 => ?_))
          · skip
            refine pt_d (pt_1 (fun n d => r_iload gx3_47 rfl) ?_)
            exact pt_d (pt_ialdN gx3_49)
          · skip
            refine pt_d (pt_1 (fun n d => r_iload gx3_47 rfl) ?_)
            refine pt_d (pt_ialdD gx3_49 z4 (fun v1011 p1011 h1011 => ?_))
            refine pt_d (pt_iald (N' := 300) gx3_50 S1003 tl_19 h1011 (fun v1012 p1012 q1012 h1012 => ?_))
            refine pt_d (pt_1 (fun n d => r_dup2 gx3_51 rfl) ?_)
            refine pt_d (pt_iald (N' := 8) gx3_52 S1003 tl_44 h1012 (fun v1013 p1013 q1013 h1013 => ?_))
            refine pt_d (pt_1 (fun n d => r_aloadn gx3_53 rfl) ?_)
            refine pt_d (pt_getD (B := 7) gx3_54 S1003 (fun k1014 => ?_) (fun q1014 k1014 => ?_))
            · skip
              refine pt_d (pt_1 (fun n d => r_iload gx3_57 rfl) ?_)
              exact pt_d (pt_ialdN gx3_59)
            · skip
              refine pt_d (pt_1 (fun n d => r_iload gx3_57 rfl) ?_)
              refine pt_d (pt_ialdD gx3_59 z4 (fun v1016 p1016 h1016 => ?_))
              refine pt_d (pt_iadd gx3_60 h1013 h1016 (fun v1017 h1017 => ?_))
              refine pt_d (pt_iasth (N' := 8) gx3_61 S1003 tl_44 h1012 h1017 (fun h_1018 S1018 p1018 q1018 e1018 K1018 => ?_))
              have G1018 := hk_t G1003 K1018
              have I1018 := IV_ua I1003 K1018 e1018 (by decide)
              refine pt_d (pt_1 (fun n d => r_iloadn gx3_62 rfl) ?_)
              refine pt_d (pt_1 (fun n d => r_aloadn gx3_63 rfl) ?_)
              refine pt_d (pt_getR gx3_64 S1018 tr_41_0 ?_)
              refine pt_d (pt_getR gx3_67 S1018 tr_1_7 ?_)
              refine pt_d (pt_1 (fun n d => r_aloadn gx3_70 rfl) ?_)
              refine pt_d (pt_1 (fun n d => r_iload gx3_71 rfl) ?_)
              refine pt_d (pt_virt (as := [.int x4]) (r := [.ref 2, .int x3]) gx3_73 rfl (show zmt[101]? = some zM101 from rfl) rfl rfl rfl rfl (wk_101 S1018 z4 I1018) (kqI (fun v1021 y1021 h_1021 h1021 P1021 => ?_)))
              have S1021 := P1021.1
              have G1021 := hk_t G1018 P1021.2.1
              have I1021 := P1021.2.2
              show Pt _ _ _ 76 _ [.int v1021, .ref 2, .int x3] _ _
              refine pt_d (pt_iald (N' := 150) gx3_76 S1021 tl_2 h1021 (fun v1022 p1022 q1022 h1022 => ?_))
              refine pt_d (pt_iconst gx3_77 (fun v1023 h1023 => ?_))
              refine pt_d (pt_icmp_ne gx3_78 h1022 h1023 (fun e1024 => ?_) (fun e1024 => ?_))
              · skip
                refine pt_d (pt_iconst gx3_91 (fun v1025 h1025 => ?_))
                refine pt_d (pt_iadd gx3_92 z3 h1025 (fun v1026 h1026 => ?_))
                refine pt_d (pt_1 (fun n d => r_istoren (L' := [some (.ref 41), some (.ref q1), some (.int x2), some (.int v1026), some (.int x4)]) gx3_93 rfl rfl) ?_)
                refine pt_d (pt_iinc (c := 1) gx3_94 rfl z4 (fun v1027 h1027 => ?_))
                show Pt _ _ _ _ [some (.ref 41), some (.ref q1), some (.int x2), some (.int v1026), some (.int v1027)] [] _ _
                refine pt_d (pt_1 (fun n d => r_goto gx3_97) ?_)
                exact ih3_13 h0 h_1021 q1 x2 v1026 v1027 S1021 G1021 I1021
              · skip
                refine pt_d (pt_1 (fun n d => r_aloadn gx3_81 rfl) ?_)
                refine pt_d (pt_getD (B := 7) gx3_82 S1021 (fun k1028 => ?_) (fun q1028 k1028 => ?_))
                · skip
                  refine pt_d (pt_1 (fun n d => r_iload gx3_85 rfl) ?_)
                  exact pt_d (pt_ialdN gx3_87)
                · skip
                  refine pt_d (pt_1 (fun n d => r_iload gx3_85 rfl) ?_)
                  refine pt_d (pt_ialdD gx3_87 z4 (fun v1030 p1030 h1030 => ?_))
                  refine pt_d (pt_1 (fun n d => r_goto gx3_88) ?_)
                  refine pt_d (pt_iadd gx3_92 z3 h1030 (fun v1031 h1031 => ?_))
                  refine pt_d (pt_1 (fun n d => r_istoren (L' := [some (.ref 41), some (.ref q1), some (.int x2), some (.int v1031), some (.int x4)]) gx3_93 rfl rfl) ?_)
                  refine pt_d (pt_iinc (c := 1) gx3_94 rfl z4 (fun v1032 h1032 => ?_))
                  show Pt _ _ _ _ [some (.ref 41), some (.ref q1), some (.int x2), some (.int v1031), some (.int v1032)] [] _ _
                  refine pt_d (pt_1 (fun n d => r_goto gx3_97) ?_)
                  exact ih3_13 h0 h_1021 q1 x2 v1031 v1032 S1021 G1021 I1021
theorem wk_3 {n : Nat} {X : aX} {h : aH} {q1 : Nat} {x2 : Int32} {a2 : Int} (S : wS h) (z2 : x2.toInt = a2) (I : IV h) : Pt n X zM3 0 [some (.ref 41), some (.ref q1), some (.int x2), none, none] [] h (qI (fun _ h' => wS h' ∧ hk h h' ∧ IV h')) := (wl_3 n).1 h h q1 x2 S (hk_r h) I
theorem wl_4 {X : aX} : ∀ n : Nat, (∀ (h0 h : aH), wS h → hk h0 h → IV h → Pt n X zM4 0 [some (.ref 41), none, none] [] h (qI (fun _ h' => wS h' ∧ hk h0 h' ∧ IV h'))) ∧
    (∀ (h0 h : aH) (x1 : Int32) (x2 : Int32), wS h → hk h0 h → IV h → Pt n X zM4 4 [some (.ref 41), some (.int x1), some (.int x2)] [] h (qI (fun _ h' => wS h' ∧ hk h0 h' ∧ IV h'))) := by
  intro n
  induction n with
  | zero => refine ⟨?_, ?_⟩ <;> (intros; exact pt_z)
  | succ n ih =>
    obtain ⟨ih4_0, ih4_4⟩ := ih
    refine ⟨?_, ?_⟩
    · intro h0 h  S G I
      refine pt_iconst gx4_0 (fun v1001 h1001 => ?_)
      refine pt_d (pt_1 (fun n d => r_istoren (L' := [some (.ref 41), some (.int v1001), none]) gx4_1 rfl rfl) ?_)
      refine pt_d (pt_iconst gx4_2 (fun v1002 h1002 => ?_))
      refine pt_d (pt_1 (fun n d => r_istoren (L' := [some (.ref 41), some (.int v1001), some (.int v1002)]) gx4_3 rfl rfl) ?_)
      exact ih4_4 h0 h v1001 v1002 S G I
    · intro h0 h x1 x2 S G I
      obtain ⟨a1, z1⟩ : ∃ a : Int, x1.toInt = a := ⟨_, rfl⟩
      obtain ⟨a2, z2⟩ : ∃ a : Int, x2.toInt = a := ⟨_, rfl⟩
      refine pt_1 (fun n d => r_iloadn gx4_4 rfl) ?_
      refine pt_d (pt_bipush gx4_5 (fun v1001 h1001 => ?_))
      refine pt_d (pt_icmp_ge gx4_7 z2 h1001 (fun e1002 => ?_) (fun e1002 => ?_))
      · skip
        refine pt_d (pt_1 (fun n d => r_iloadn gx4_33 rfl) ?_)
        exact pt_d (pt_iret gx4_34 ⟨_, rfl, S, G, I⟩)
      · skip
        refine pt_d (pt_1 (fun n d => r_iloadn gx4_10 rfl) ?_)
        refine pt_d (pt_1 (fun n d => r_aloadn gx4_11 rfl) ?_)
        refine pt_d (pt_getR gx4_12 S tr_41_5 ?_)
        refine pt_d (pt_1 (fun n d => r_iloadn gx4_15 rfl) ?_)
        refine pt_d (pt_iald (N' := 8) gx4_16 S tl_44 z2 (fun v1004 p1004 q1004 h1004 => ?_))
        refine pt_d (pt_if_le gx4_17 h1004 (fun e1005 => ?_) (fun e1005 => ?_))
        · skip
          refine pt_d (pt_iconst gx4_24 (fun v1006 h1006 => ?_))
          refine pt_d (pt_iadd gx4_25 z1 h1006 (fun v1007 h1007 => ?_))
          refine pt_d (pt_1 (fun n d => r_istoren (L' := [some (.ref 41), some (.int v1007), some (.int x2)]) gx4_26 rfl rfl) ?_)
          refine pt_d (pt_iinc (c := 1) gx4_27 rfl z2 (fun v1008 h1008 => ?_))
          show Pt _ _ _ _ [some (.ref 41), some (.int v1007), some (.int v1008)] [] _ _
          refine pt_d (pt_1 (fun n d => r_goto gx4_30) ?_)
          exact ih4_4 h0 h v1007 v1008 S G I
        · skip
          refine pt_d (pt_iconst gx4_20 (fun v1009 h1009 => ?_))
          refine pt_d (pt_1 (fun n d => r_goto gx4_21) ?_)
          refine pt_d (pt_iadd gx4_25 z1 h1009 (fun v1010 h1010 => ?_))
          refine pt_d (pt_1 (fun n d => r_istoren (L' := [some (.ref 41), some (.int v1010), some (.int x2)]) gx4_26 rfl rfl) ?_)
          refine pt_d (pt_iinc (c := 1) gx4_27 rfl z2 (fun v1011 h1011 => ?_))
          show Pt _ _ _ _ [some (.ref 41), some (.int v1010), some (.int v1011)] [] _ _
          refine pt_d (pt_1 (fun n d => r_goto gx4_30) ?_)
          exact ih4_4 h0 h v1010 v1011 S G I
theorem wk_4 {n : Nat} {X : aX} {h : aH} (S : wS h) (I : IV h) : Pt n X zM4 0 [some (.ref 41), none, none] [] h (qI (fun _ h' => wS h' ∧ hk h h' ∧ IV h')) := (wl_4 n).1 h h  S (hk_r h) I
theorem wl_5 {X : aX} : ∀ n : Nat, (∀ (h0 h : aH), wS h → hk h0 h → IV h → Pt n X zM5 0 [some (.ref 41), none, none] [] h (qI (fun _ h' => wS h' ∧ hk h0 h' ∧ IV h'))) ∧
    (∀ (h0 h : aH) (x1 : Int32) (x2 : Int32), wS h → hk h0 h → IV h → Pt n X zM5 4 [some (.ref 41), some (.int x1), some (.int x2)] [] h (qI (fun _ h' => wS h' ∧ hk h0 h' ∧ IV h'))) := by
  intro n
  induction n with
  | zero => refine ⟨?_, ?_⟩ <;> (intros; exact pt_z)
  | succ n ih =>
    obtain ⟨ih5_0, ih5_4⟩ := ih
    refine ⟨?_, ?_⟩
    · intro h0 h  S G I
      refine pt_iconst gx5_0 (fun v1001 h1001 => ?_)
      refine pt_d (pt_1 (fun n d => r_istoren (L' := [some (.ref 41), some (.int v1001), none]) gx5_1 rfl rfl) ?_)
      refine pt_d (pt_iconst gx5_2 (fun v1002 h1002 => ?_))
      refine pt_d (pt_1 (fun n d => r_istoren (L' := [some (.ref 41), some (.int v1001), some (.int v1002)]) gx5_3 rfl rfl) ?_)
      exact ih5_4 h0 h v1001 v1002 S G I
    · intro h0 h x1 x2 S G I
      obtain ⟨a1, z1⟩ : ∃ a : Int, x1.toInt = a := ⟨_, rfl⟩
      obtain ⟨a2, z2⟩ : ∃ a : Int, x2.toInt = a := ⟨_, rfl⟩
      refine pt_1 (fun n d => r_iloadn gx5_4 rfl) ?_
      refine pt_d (pt_bipush gx5_5 (fun v1001 h1001 => ?_))
      refine pt_d (pt_icmp_ge gx5_7 z2 h1001 (fun e1002 => ?_) (fun e1002 => ?_))
      · skip
        refine pt_d (pt_1 (fun n d => r_iloadn gx5_27 rfl) ?_)
        exact pt_d (pt_iret gx5_28 ⟨_, rfl, S, G, I⟩)
      · skip
        refine pt_d (pt_1 (fun n d => r_iloadn gx5_10 rfl) ?_)
        refine pt_d (pt_1 (fun n d => r_aloadn gx5_11 rfl) ?_)
        refine pt_d (pt_getR gx5_12 S tr_41_5 ?_)
        refine pt_d (pt_1 (fun n d => r_iloadn gx5_15 rfl) ?_)
        refine pt_d (pt_iald (N' := 8) gx5_16 S tl_44 z2 (fun v1004 p1004 q1004 h1004 => ?_))
        refine pt_d (pt_max gx5_17 rfl z1 h1004 (fun v1005 h1005 => ?_))
        refine pt_d (pt_1 (fun n d => r_istoren (L' := [some (.ref 41), some (.int v1005), some (.int x2)]) gx5_20 rfl rfl) ?_)
        refine pt_d (pt_iinc (c := 1) gx5_21 rfl z2 (fun v1006 h1006 => ?_))
        show Pt _ _ _ _ [some (.ref 41), some (.int v1005), some (.int v1006)] [] _ _
        refine pt_d (pt_1 (fun n d => r_goto gx5_24) ?_)
        exact ih5_4 h0 h v1005 v1006 S G I
theorem wk_5 {n : Nat} {X : aX} {h : aH} (S : wS h) (I : IV h) : Pt n X zM5 0 [some (.ref 41), none, none] [] h (qI (fun _ h' => wS h' ∧ hk h h' ∧ IV h')) := (wl_5 n).1 h h  S (hk_r h) I
theorem wl_86 {X : aX} : ∀ n : Nat, (∀ (h0 h : aH) (x1 : Int32) (x2 : Int32) (x3 : Int32), wS h → hk h0 h → IV h → Pt n X zM86 0 [some (.ref 1), some (.int x1), some (.int x2), some (.int x3), none, none, none, none] [] h (qI (fun _ h' => wS h' ∧ hk h0 h' ∧ IV h'))) ∧
    (∀ (h0 h : aH) (x1 : Int32) (x2 : Int32) (x3 : Int32) (x4 : Int32) (x5 : Int32) (x6 : Int32) (u7 : Option Value), wS h → hk h0 h → IV h → Pt n X zM86 14 [some (.ref 1), some (.int x1), some (.int x2), some (.int x3), some (.int x4), some (.int x5), some (.int x6), u7] [] h (qI (fun _ h' => wS h' ∧ hk h0 h' ∧ IV h'))) := by
  intro n
  induction n with
  | zero => refine ⟨?_, ?_⟩ <;> (intros; exact pt_z)
  | succ n ih =>
    obtain ⟨ih86_0, ih86_14⟩ := ih
    refine ⟨?_, ?_⟩
    · intro h0 h x1 x2 x3 S G I
      obtain ⟨a1, z1⟩ : ∃ a : Int, x1.toInt = a := ⟨_, rfl⟩
      obtain ⟨a2, z2⟩ : ∃ a : Int, x2.toInt = a := ⟨_, rfl⟩
      obtain ⟨a3, z3⟩ : ∃ a : Int, x3.toInt = a := ⟨_, rfl⟩
      refine pt_1 (fun n d => r_aloadn gx86_0 rfl) ?_
      refine pt_d (pt_getR gx86_1 S tr_1_12 ?_)
      refine pt_d (pt_1 (fun n d => r_iloadn gx86_4 rfl) ?_)
      refine pt_d (pt_iald (N' := 150) gx86_5 S tl_7 z1 (fun v1002 p1002 q1002 h1002 => ?_))
      refine pt_d (pt_1 (fun n d => r_istore (L' := [some (.ref 1), some (.int x1), some (.int x2), some (.int x3), some (.int v1002), none, none, none]) gx86_6 rfl rfl) ?_)
      refine pt_d (pt_iconst gx86_8 (fun v1003 h1003 => ?_))
      refine pt_d (pt_1 (fun n d => r_istore (L' := [some (.ref 1), some (.int x1), some (.int x2), some (.int x3), some (.int v1002), some (.int v1003), none, none]) gx86_9 rfl rfl) ?_)
      refine pt_d (pt_iconst gx86_11 (fun v1004 h1004 => ?_))
      refine pt_d (pt_1 (fun n d => r_istore (L' := [some (.ref 1), some (.int x1), some (.int x2), some (.int x3), some (.int v1002), some (.int v1003), some (.int v1004), none]) gx86_12 rfl rfl) ?_)
      exact ih86_14 h0 h x1 x2 x3 v1002 v1003 v1004 _ S G I
    · intro h0 h x1 x2 x3 x4 x5 x6 u7 S G I
      obtain ⟨a1, z1⟩ : ∃ a : Int, x1.toInt = a := ⟨_, rfl⟩
      obtain ⟨a2, z2⟩ : ∃ a : Int, x2.toInt = a := ⟨_, rfl⟩
      obtain ⟨a3, z3⟩ : ∃ a : Int, x3.toInt = a := ⟨_, rfl⟩
      obtain ⟨a4, z4⟩ : ∃ a : Int, x4.toInt = a := ⟨_, rfl⟩
      obtain ⟨a5, z5⟩ : ∃ a : Int, x5.toInt = a := ⟨_, rfl⟩
      obtain ⟨a6, z6⟩ : ∃ a : Int, x6.toInt = a := ⟨_, rfl⟩
      refine pt_1 (fun n d => r_iload gx86_14 rfl) ?_
      refine pt_d (pt_1 (fun n d => r_aloadn gx86_16 rfl) ?_)
      refine pt_d (pt_getI (B := 6) gx86_17 S (fun v1001 h1001 => ?_))
      refine pt_d (pt_icmp_ge gx86_20 z6 h1001 (fun e1002 => ?_) (fun e1002 => ?_))
      · skip
        refine pt_d (pt_1 (fun n d => r_iload gx86_97 rfl) ?_)
        exact pt_d (pt_iret gx86_99 ⟨_, rfl, S, G, I⟩)
      · skip
        refine pt_d (pt_1 (fun n d => r_aloadn gx86_23 rfl) ?_)
        refine pt_d (pt_getR gx86_24 S tr_1_14 ?_)
        refine pt_d (pt_1 (fun n d => r_iload gx86_27 rfl) ?_)
        refine pt_d (pt_iald (N' := 200) gx86_29 S tl_9 z6 (fun v1004 p1004 q1004 h1004 => ?_))
        refine pt_d (pt_1 (fun n d => r_iloadn gx86_30 rfl) ?_)
        refine pt_d (pt_icmp_ne gx86_31 h1004 z1 (fun e1005 => ?_) (fun e1005 => ?_))
        · skip
          refine pt_d (pt_iconst gx86_49 (fun v1006 h1006 => ?_))
          refine pt_d (pt_1 (fun n d => r_istore (L' := [some (.ref 1), some (.int x1), some (.int x2), some (.int x3), some (.int x4), some (.int x5), some (.int x6), some (.int v1006)]) gx86_50 rfl rfl) ?_)
          refine pt_d (pt_1 (fun n d => r_iload gx86_52 rfl) ?_)
          refine pt_d (pt_if_eq gx86_54 h1006 (fun e1007 => ?_) (fun e1007 => absurd e1007 (by decide)))
          refine pt_d (pt_iinc (c := 1) gx86_91 rfl z6 (fun v1008 h1008 => ?_))
          show Pt _ _ _ _ [some (.ref 1), some (.int x1), some (.int x2), some (.int x3), some (.int x4), some (.int x5), some (.int v1008), some (.int v1006)] [] _ _
          refine pt_d (pt_1 (fun n d => r_goto gx86_94) ?_)
          exact ih86_14 h0 h x1 x2 x3 x4 x5 v1008 _ S G I
        · skip
          refine pt_d (pt_1 (fun n d => r_aloadn gx86_34 rfl) ?_)
          refine pt_d (pt_getR gx86_35 S tr_1_17 ?_)
          refine pt_d (pt_1 (fun n d => r_iload gx86_38 rfl) ?_)
          refine pt_d (pt_iald (N' := 200) gx86_40 S tl_12 z6 (fun v1010 p1010 q1010 h1010 => ?_))
          refine pt_d (pt_1 (fun n d => r_iloadn gx86_41 rfl) ?_)
          refine pt_d (pt_icmp_gt gx86_42 h1010 z3 (fun e1011 => ?_) (fun e1011 => ?_))
          · skip
            refine pt_d (pt_iconst gx86_49 (fun v1012 h1012 => ?_))
            refine pt_d (pt_1 (fun n d => r_istore (L' := [some (.ref 1), some (.int x1), some (.int x2), some (.int x3), some (.int x4), some (.int x5), some (.int x6), some (.int v1012)]) gx86_50 rfl rfl) ?_)
            refine pt_d (pt_1 (fun n d => r_iload gx86_52 rfl) ?_)
            refine pt_d (pt_if_eq gx86_54 h1012 (fun e1013 => ?_) (fun e1013 => absurd e1013 (by decide)))
            refine pt_d (pt_iinc (c := 1) gx86_91 rfl z6 (fun v1014 h1014 => ?_))
            show Pt _ _ _ _ [some (.ref 1), some (.int x1), some (.int x2), some (.int x3), some (.int x4), some (.int x5), some (.int v1014), some (.int v1012)] [] _ _
            refine pt_d (pt_1 (fun n d => r_goto gx86_94) ?_)
            exact ih86_14 h0 h x1 x2 x3 x4 x5 v1014 _ S G I
          · skip
            refine pt_d (pt_iconst gx86_45 (fun v1015 h1015 => ?_))
            refine pt_d (pt_1 (fun n d => r_goto gx86_46) ?_)
            refine pt_d (pt_1 (fun n d => r_istore (L' := [some (.ref 1), some (.int x1), some (.int x2), some (.int x3), some (.int x4), some (.int x5), some (.int x6), some (.int v1015)]) gx86_50 rfl rfl) ?_)
            refine pt_d (pt_1 (fun n d => r_iload gx86_52 rfl) ?_)
            refine pt_d (pt_if_eq gx86_54 h1015 (fun e1016 => absurd e1016 (by decide)) (fun e1016 => ?_))
            refine pt_d (pt_1 (fun n d => r_aloadn gx86_57 rfl) ?_)
            refine pt_d (pt_getR gx86_58 S tr_1_16 ?_)
            refine pt_d (pt_1 (fun n d => r_iload gx86_61 rfl) ?_)
            refine pt_d (pt_iald (N' := 200) gx86_63 S tl_11 z6 (fun v1018 p1018 q1018 h1018 => ?_))
            refine pt_d (pt_1 (fun n d => r_iload gx86_64 rfl) ?_)
            refine pt_d (pt_1 (fun n d => r_iloadn gx86_66 rfl) ?_)
            refine pt_d (pt_stat (as := [.int v1018, .int x5, .int x2]) (r := []) gx86_67 rfl (show zmt[137]? = some zM137 from rfl) rfl rfl rfl rfl (c_137 S h1018 z5 z2) (kqP (fun v1019 h1019 => ?_)))
            show Pt _ _ _ 70 _ [.int v1019] _ _
            refine pt_d (pt_ifB_eq gx86_70 h1019 (fun e1020 => ?_) (fun e1020 => ?_))
            · skip
              refine pt_d (pt_iinc (c := 1) gx86_91 rfl z6 (fun v1021 h1021 => ?_))
              show Pt _ _ _ _ [some (.ref 1), some (.int x1), some (.int x2), some (.int x3), some (.int x4), some (.int x5), some (.int v1021), some (.int v1015)] [] _ _
              refine pt_d (pt_1 (fun n d => r_goto gx86_94) ?_)
              exact ih86_14 h0 h x1 x2 x3 x4 x5 v1021 _ S G I
            · skip
              refine pt_d (pt_1 (fun n d => r_aloadn gx86_73 rfl) ?_)
              refine pt_d (pt_getR gx86_74 S tr_1_16 ?_)
              refine pt_d (pt_1 (fun n d => r_iload gx86_77 rfl) ?_)
              refine pt_d (pt_iald (N' := 200) gx86_79 S tl_11 z6 (fun v1023 p1023 q1023 h1023 => ?_))
              refine pt_d (pt_1 (fun n d => r_istore (L' := [some (.ref 1), some (.int x1), some (.int x2), some (.int x3), some (.int x4), some (.int v1023), some (.int x6), some (.int v1015)]) gx86_80 rfl rfl) ?_)
              refine pt_d (pt_1 (fun n d => r_aloadn gx86_82 rfl) ?_)
              refine pt_d (pt_getR gx86_83 S tr_1_15 ?_)
              refine pt_d (pt_1 (fun n d => r_iload gx86_86 rfl) ?_)
              refine pt_d (pt_iald (N' := 200) gx86_88 S tl_10 z6 (fun v1025 p1025 q1025 h1025 => ?_))
              refine pt_d (pt_1 (fun n d => r_istore (L' := [some (.ref 1), some (.int x1), some (.int x2), some (.int x3), some (.int v1025), some (.int v1023), some (.int x6), some (.int v1015)]) gx86_89 rfl rfl) ?_)
              refine pt_d (pt_iinc (c := 1) gx86_91 rfl z6 (fun v1026 h1026 => ?_))
              show Pt _ _ _ _ [some (.ref 1), some (.int x1), some (.int x2), some (.int x3), some (.int v1025), some (.int v1023), some (.int v1026), some (.int v1015)] [] _ _
              refine pt_d (pt_1 (fun n d => r_goto gx86_94) ?_)
              exact ih86_14 h0 h x1 x2 x3 v1025 v1023 v1026 _ S G I
theorem wk_86 {n : Nat} {X : aX} {h : aH} {x1 : Int32} {x2 : Int32} {x3 : Int32} {a1 : Int} {a2 : Int} {a3 : Int} (S : wS h) (z1 : x1.toInt = a1) (z2 : x2.toInt = a2) (z3 : x3.toInt = a3) (I : IV h) : Pt n X zM86 0 [some (.ref 1), some (.int x1), some (.int x2), some (.int x3), none, none, none, none] [] h (qI (fun _ h' => wS h' ∧ hk h h' ∧ IV h')) := (wl_86 n).1 h h x1 x2 x3 S (hk_r h) I
theorem wl_7 {X : aX} : ∀ n : Nat, (∀ (h0 h : aH) (x1 : Int32) (x2 : Int32) (x3 : Int32) (x4 : Int32), wS h → hk h0 h → IV h → Pt n X zM7 0 [some (.ref 41), some (.int x1), some (.int x2), some (.int x3), some (.int x4)] [] h (qI (fun _ h' => wS h' ∧ hk h0 h' ∧ IV h'))) := by
  intro n
  induction n with
  | zero => refine ?_ <;> (intros; exact pt_z)
  | succ n ih =>
    have ih7_0 := ih
    refine ?_
    · intro h0 h x1 x2 x3 x4 S G I
      obtain ⟨a1, z1⟩ : ∃ a : Int, x1.toInt = a := ⟨_, rfl⟩
      obtain ⟨a2, z2⟩ : ∃ a : Int, x2.toInt = a := ⟨_, rfl⟩
      obtain ⟨a3, z3⟩ : ∃ a : Int, x3.toInt = a := ⟨_, rfl⟩
      obtain ⟨a4, z4⟩ : ∃ a : Int, x4.toInt = a := ⟨_, rfl⟩
      refine pt_1 (fun n d => r_aloadn gx7_0 rfl) ?_
      refine pt_d (pt_getR gx7_1 S tr_41_0 ?_)
      refine pt_d (pt_1 (fun n d => r_iloadn gx7_4 rfl) ?_)
      refine pt_d (pt_1 (fun n d => r_iloadn gx7_5 rfl) ?_)
      refine pt_d (pt_sipush gx7_6 (fun v1002 h1002 => ?_))
      refine pt_d (pt_imul gx7_9 z3 h1002 (fun v1003 h1003 => ?_))
      refine pt_d (pt_sipush gx7_10 (fun v1004 h1004 => ?_))
      refine pt_d (pt_iadd gx7_13 h1003 h1004 (fun v1005 h1005 => ?_))
      refine pt_d (pt_iconst gx7_14 (fun v1006 h1006 => ?_))
      refine pt_d (pt_isub gx7_15 h1005 h1006 (fun v1007 h1007 => ?_))
      refine pt_d (pt_1 (fun n d => r_iload gx7_16 rfl) ?_)
      refine pt_d (pt_virt (as := [.int x2, .int v1007, .int x4]) (r := []) gx7_18 rfl (show zmt[86]? = some zM86 from rfl) rfl rfl rfl rfl (wk_86 S z2 h1007 z4 I) (kqI (fun v1008 y1008 h_1008 h1008 P1008 => ?_)))
      have S1008 := P1008.1
      have G1008 := hk_t G P1008.2.1
      have I1008 := P1008.2.2
      show Pt _ _ _ 21 _ [.int v1008] _ _
      refine pt_d (pt_1 (fun n d => r_iloadn gx7_21 rfl) ?_)
      refine pt_d (pt_icmp_ne gx7_22 h1008 z1 (fun e1009 => ?_) (fun e1009 => ?_))
      · skip
        refine pt_d (pt_iconst gx7_29 (fun v1010 h1010 => ?_))
        exact pt_d (pt_iret gx7_30 ⟨_, rfl, S1008, G1008, I1008⟩)
      · skip
        refine pt_d (pt_iconst gx7_25 (fun v1011 h1011 => ?_))
        refine pt_d (pt_1 (fun n d => r_goto gx7_26) ?_)
        exact pt_d (pt_iret gx7_30 ⟨_, rfl, S1008, G1008, I1008⟩)
theorem wk_7 {n : Nat} {X : aX} {h : aH} {x1 : Int32} {x2 : Int32} {x3 : Int32} {x4 : Int32} {a1 : Int} {a2 : Int} {a3 : Int} {a4 : Int} (S : wS h) (z1 : x1.toInt = a1) (z2 : x2.toInt = a2) (z3 : x3.toInt = a3) (z4 : x4.toInt = a4) (I : IV h) : Pt n X zM7 0 [some (.ref 41), some (.int x1), some (.int x2), some (.int x3), some (.int x4)] [] h (qI (fun _ h' => wS h' ∧ hk h h' ∧ IV h')) := (wl_7 n) h h x1 x2 x3 x4 S (hk_r h) I
theorem wl_6 {X : aX} : ∀ n : Nat, (∀ (h0 h : aH) (x1 : Int32) (x2 : Int32) (x3 : Int32), wS h → hk h0 h → IV h → Pt n X zM6 0 [some (.ref 41), some (.int x1), some (.int x2), some (.int x3), none, none] [] h (qI (fun _ h' => wS h' ∧ hk h0 h' ∧ IV h'))) ∧
    (∀ (h0 h : aH) (x1 : Int32) (x2 : Int32) (x3 : Int32) (x4 : Int32) (x5 : Int32), wS h → hk h0 h → IV h → Pt n X zM6 6 [some (.ref 41), some (.int x1), some (.int x2), some (.int x3), some (.int x4), some (.int x5)] [] h (qI (fun _ h' => wS h' ∧ hk h0 h' ∧ IV h'))) := by
  intro n
  induction n with
  | zero => refine ⟨?_, ?_⟩ <;> (intros; exact pt_z)
  | succ n ih =>
    obtain ⟨ih6_0, ih6_6⟩ := ih
    refine ⟨?_, ?_⟩
    · intro h0 h x1 x2 x3 S G I
      obtain ⟨a1, z1⟩ : ∃ a : Int, x1.toInt = a := ⟨_, rfl⟩
      obtain ⟨a2, z2⟩ : ∃ a : Int, x2.toInt = a := ⟨_, rfl⟩
      obtain ⟨a3, z3⟩ : ∃ a : Int, x3.toInt = a := ⟨_, rfl⟩
      refine pt_iconst gx6_0 (fun v1001 h1001 => ?_)
      refine pt_d (pt_1 (fun n d => r_istore (L' := [some (.ref 41), some (.int x1), some (.int x2), some (.int x3), some (.int v1001), none]) gx6_1 rfl rfl) ?_)
      refine pt_d (pt_iconst gx6_3 (fun v1002 h1002 => ?_))
      refine pt_d (pt_1 (fun n d => r_istore (L' := [some (.ref 41), some (.int x1), some (.int x2), some (.int x3), some (.int v1001), some (.int v1002)]) gx6_4 rfl rfl) ?_)
      exact ih6_6 h0 h x1 x2 x3 v1001 v1002 S G I
    · intro h0 h x1 x2 x3 x4 x5 S G I
      obtain ⟨a1, z1⟩ : ∃ a : Int, x1.toInt = a := ⟨_, rfl⟩
      obtain ⟨a2, z2⟩ : ∃ a : Int, x2.toInt = a := ⟨_, rfl⟩
      obtain ⟨a3, z3⟩ : ∃ a : Int, x3.toInt = a := ⟨_, rfl⟩
      obtain ⟨a4, z4⟩ : ∃ a : Int, x4.toInt = a := ⟨_, rfl⟩
      obtain ⟨a5, z5⟩ : ∃ a : Int, x5.toInt = a := ⟨_, rfl⟩
      refine pt_1 (fun n d => r_iload gx6_6 rfl) ?_
      refine pt_d (pt_1 (fun n d => r_aloadn gx6_8 rfl) ?_)
      refine pt_d (pt_getR gx6_9 S tr_41_0 ?_)
      refine pt_d (pt_getI (B := 4) gx6_12 S (fun v1002 h1002 => ?_))
      refine pt_d (pt_icmp_ge gx6_15 z5 h1002 (fun e1003 => ?_) (fun e1003 => ?_))
      · skip
        refine pt_d (pt_1 (fun n d => r_iload gx6_54 rfl) ?_)
        exact pt_d (pt_iret gx6_56 ⟨_, rfl, S, G, I⟩)
      · skip
        refine pt_d (pt_1 (fun n d => r_iload gx6_18 rfl) ?_)
        refine pt_d (pt_1 (fun n d => r_aloadn gx6_20 rfl) ?_)
        refine pt_d (pt_1 (fun n d => r_iloadn gx6_21 rfl) ?_)
        refine pt_d (pt_1 (fun n d => r_aloadn gx6_22 rfl) ?_)
        refine pt_d (pt_getR gx6_23 S tr_41_0 ?_)
        refine pt_d (pt_getR gx6_26 S tr_1_11 ?_)
        refine pt_d (pt_1 (fun n d => r_iload gx6_29 rfl) ?_)
        refine pt_d (pt_iald (N' := 150) gx6_31 S tl_6 z5 (fun v1006 p1006 q1006 h1006 => ?_))
        refine pt_d (pt_1 (fun n d => r_iloadn gx6_32 rfl) ?_)
        refine pt_d (pt_1 (fun n d => r_iloadn gx6_33 rfl) ?_)
        refine pt_d (pt_virt (as := [.int x1, .int v1006, .int x2, .int x3]) (r := [.int x4]) gx6_34 rfl (show zmt[7]? = some zM7 from rfl) rfl rfl rfl rfl (wk_7 S z1 h1006 z2 z3 I) (kqI (fun v1007 y1007 h_1007 h1007 P1007 => ?_)))
        have S1007 := P1007.1
        have G1007 := hk_t G P1007.2.1
        have I1007 := P1007.2.2
        show Pt _ _ _ 37 _ [.int v1007, .int x4] _ _
        refine pt_d (pt_if_eq gx6_37 h1007 (fun e1008 => ?_) (fun e1008 => ?_))
        · skip
          refine pt_d (pt_iconst gx6_44 (fun v1009 h1009 => ?_))
          refine pt_d (pt_iadd gx6_45 z4 h1009 (fun v1010 h1010 => ?_))
          refine pt_d (pt_1 (fun n d => r_istore (L' := [some (.ref 41), some (.int x1), some (.int x2), some (.int x3), some (.int v1010), some (.int x5)]) gx6_46 rfl rfl) ?_)
          refine pt_d (pt_iinc (c := 1) gx6_48 rfl z5 (fun v1011 h1011 => ?_))
          show Pt _ _ _ _ [some (.ref 41), some (.int x1), some (.int x2), some (.int x3), some (.int v1010), some (.int v1011)] [] _ _
          refine pt_d (pt_1 (fun n d => r_goto gx6_51) ?_)
          exact ih6_6 h0 h_1007 x1 x2 x3 v1010 v1011 S1007 G1007 I1007
        · skip
          refine pt_d (pt_iconst gx6_40 (fun v1012 h1012 => ?_))
          refine pt_d (pt_1 (fun n d => r_goto gx6_41) ?_)
          refine pt_d (pt_iadd gx6_45 z4 h1012 (fun v1013 h1013 => ?_))
          refine pt_d (pt_1 (fun n d => r_istore (L' := [some (.ref 41), some (.int x1), some (.int x2), some (.int x3), some (.int v1013), some (.int x5)]) gx6_46 rfl rfl) ?_)
          refine pt_d (pt_iinc (c := 1) gx6_48 rfl z5 (fun v1014 h1014 => ?_))
          show Pt _ _ _ _ [some (.ref 41), some (.int x1), some (.int x2), some (.int x3), some (.int v1013), some (.int v1014)] [] _ _
          refine pt_d (pt_1 (fun n d => r_goto gx6_51) ?_)
          exact ih6_6 h0 h_1007 x1 x2 x3 v1013 v1014 S1007 G1007 I1007
theorem wk_6 {n : Nat} {X : aX} {h : aH} {x1 : Int32} {x2 : Int32} {x3 : Int32} {a1 : Int} {a2 : Int} {a3 : Int} (S : wS h) (z1 : x1.toInt = a1) (z2 : x2.toInt = a2) (z3 : x3.toInt = a3) (I : IV h) : Pt n X zM6 0 [some (.ref 41), some (.int x1), some (.int x2), some (.int x3), none, none] [] h (qI (fun _ h' => wS h' ∧ hk h h' ∧ IV h')) := (wl_6 n).1 h h x1 x2 x3 S (hk_r h) I
theorem wl_38 {X : aX} : ∀ n : Nat, (∀ (h0 h : aH) (x1 : Int32) (x2 : Int32) (x3 : Int32), wS h → hk h0 h → IV h → Pt n X zM38 0 [some (.ref 16), some (.int x1), some (.int x2), some (.int x3)] [] h (qI (fun _ h' => wS h' ∧ hk h0 h' ∧ IV h'))) := by
  intro n
  induction n with
  | zero => refine ?_ <;> (intros; exact pt_z)
  | succ n ih =>
    have ih38_0 := ih
    refine ?_
    · intro h0 h x1 x2 x3 S G I
      obtain ⟨a1, z1⟩ : ∃ a : Int, x1.toInt = a := ⟨_, rfl⟩
      obtain ⟨a2, z2⟩ : ∃ a : Int, x2.toInt = a := ⟨_, rfl⟩
      obtain ⟨a3, z3⟩ : ∃ a : Int, x3.toInt = a := ⟨_, rfl⟩
      refine pt_1 (fun n d => r_aloadn gx38_0 rfl) ?_
      refine pt_d (pt_getR gx38_1 S tr_16_19 ?_)
      refine pt_d (pt_1 (fun n d => r_iloadn gx38_4 rfl) ?_)
      refine pt_d (pt_bipush gx38_5 (fun v1002 h1002 => ?_))
      refine pt_d (pt_imul gx38_7 z1 h1002 (fun v1003 h1003 => ?_))
      refine pt_d (pt_1 (fun n d => r_iloadn gx38_8 rfl) ?_)
      refine pt_d (pt_iadd gx38_9 h1003 z2 (fun v1004 h1004 => ?_))
      refine pt_d (pt_iald (N' := 1500) gx38_10 S tl_32 h1004 (fun v1005 p1005 q1005 h1005 => ?_))
      refine pt_d (pt_iconst gx38_11 (fun v1006 h1006 => ?_))
      refine pt_d (pt_1 (fun n d => r_iloadn gx38_12 rfl) ?_)
      refine pt_d (pt_iconst gx38_13 (fun v1007 h1007 => ?_))
      refine pt_d (pt_iadd gx38_14 z3 h1007 (fun v1008 h1008 => ?_))
      refine pt_d (pt_stat (as := [.int v1005, .int v1006, .int v1008]) (r := []) gx38_15 rfl (show zmt[137]? = some zM137 from rfl) rfl rfl rfl rfl (c_137 S h1005 h1006 h1008) (kqP (fun v1009 h1009 => ?_)))
      show Pt _ _ _ 18 _ [.int v1009] _ _
      exact pt_d (pt_iret gx38_18 ⟨_, rfl, S, G, I⟩)
theorem wk_38 {n : Nat} {X : aX} {h : aH} {x1 : Int32} {x2 : Int32} {x3 : Int32} {a1 : Int} {a2 : Int} {a3 : Int} (S : wS h) (z1 : x1.toInt = a1) (z2 : x2.toInt = a2) (z3 : x3.toInt = a3) (I : IV h) : Pt n X zM38 0 [some (.ref 16), some (.int x1), some (.int x2), some (.int x3)] [] h (qI (fun _ h' => wS h' ∧ hk h h' ∧ IV h')) := (wl_38 n) h h x1 x2 x3 S (hk_r h) I
theorem wl_102 {X : aX} : ∀ n : Nat, (∀ (h0 h : aH) (q0 : Nat) (x1 : Int32), wS h → hk h0 h → IV h → Pt n X zM102 0 [some (.ref q0), some (.int x1), none] [] h (qI (fun _ h' => wS h' ∧ hk h0 h' ∧ IV h'))) := by
  intro n
  induction n with
  | zero => refine ?_ <;> (intros; exact pt_z)
  | succ n ih =>
    have ih102_0 := ih
    refine ?_
    · intro h0 h q0 x1 S G I
      obtain ⟨a1, z1⟩ : ∃ a : Int, x1.toInt = a := ⟨_, rfl⟩
      refine pt_1 (fun n d => r_aloadn gx102_0 rfl) ?_
      refine pt_d (pt_getD (B := 10) gx102_1 S (fun k1001 => ?_) (fun q1001 k1001 => ?_))
      · skip
        refine pt_d (pt_1 (fun n d => r_iloadn gx102_4 rfl) ?_)
        exact pt_d (pt_ialdN gx102_5)
      · skip
        refine pt_d (pt_1 (fun n d => r_iloadn gx102_4 rfl) ?_)
        refine pt_d (pt_ialdD gx102_5 z1 (fun v1003 p1003 h1003 => ?_))
        refine pt_d (pt_1 (fun n d => r_aloadn gx102_6 rfl) ?_)
        refine pt_d (pt_getD (B := 11) gx102_7 S (fun k1004 => ?_) (fun q1004 k1004 => ?_))
        · skip
          refine pt_d (pt_1 (fun n d => r_iloadn gx102_10 rfl) ?_)
          exact pt_d (pt_ialdN gx102_11)
        · skip
          refine pt_d (pt_1 (fun n d => r_iloadn gx102_10 rfl) ?_)
          refine pt_d (pt_ialdD gx102_11 z1 (fun v1006 p1006 h1006 => ?_))
          refine pt_d (pt_isub gx102_12 h1003 h1006 (fun v1007 h1007 => ?_))
          refine pt_d (pt_1 (fun n d => r_istoren (L' := [some (.ref q0), some (.int x1), some (.int v1007)]) gx102_13 rfl rfl) ?_)
          refine pt_d (pt_1 (fun n d => r_iloadn gx102_14 rfl) ?_)
          refine pt_d (pt_if_ne gx102_15 h1007 (fun e1008 => ?_) (fun e1008 => ?_))
          · skip
            refine pt_d (pt_sipush gx102_35 (fun v1009 h1009 => ?_))
            refine pt_d (pt_bipush gx102_38 (fun v1010 h1010 => ?_))
            refine pt_d (pt_1 (fun n d => r_aloadn gx102_40 rfl) ?_)
            refine pt_d (pt_getD (B := 11) gx102_41 S (fun k1011 => ?_) (fun q1011 k1011 => ?_))
            · skip
              refine pt_d (pt_1 (fun n d => r_iloadn gx102_44 rfl) ?_)
              exact pt_d (pt_ialdN gx102_45)
            · skip
              refine pt_d (pt_1 (fun n d => r_iloadn gx102_44 rfl) ?_)
              refine pt_d (pt_ialdD gx102_45 z1 (fun v1013 p1013 h1013 => ?_))
              refine pt_d (pt_imul gx102_46 h1010 h1013 (fun v1014 h1014 => ?_))
              refine pt_d (pt_1 (fun n d => r_iloadn gx102_47 rfl) ?_)
              refine pt_d (pt_idiv gx102_48 h1014 h1007 (fun v1015 h1015 => ?_))
              refine pt_d (pt_min gx102_49 rfl h1009 h1015 (fun v1016 h1016 => ?_))
              exact pt_d (pt_iret gx102_52 ⟨_, rfl, S, G, I⟩)
          · skip
            refine pt_d (pt_1 (fun n d => r_aloadn gx102_18 rfl) ?_)
            refine pt_d (pt_getD (B := 10) gx102_19 S (fun k1017 => ?_) (fun q1017 k1017 => ?_))
            · skip
              refine pt_d (pt_1 (fun n d => r_iloadn gx102_22 rfl) ?_)
              exact pt_d (pt_ialdN gx102_23)
            · skip
              refine pt_d (pt_1 (fun n d => r_iloadn gx102_22 rfl) ?_)
              refine pt_d (pt_ialdD gx102_23 z1 (fun v1019 p1019 h1019 => ?_))
              refine pt_d (pt_if_ne gx102_24 h1019 (fun e1020 => ?_) (fun e1020 => ?_))
              · skip
                refine pt_d (pt_sipush gx102_31 (fun v1021 h1021 => ?_))
                exact pt_d (pt_iret gx102_34 ⟨_, rfl, S, G, I⟩)
              · skip
                refine pt_d (pt_iconst gx102_27 (fun v1022 h1022 => ?_))
                refine pt_d (pt_1 (fun n d => r_goto gx102_28) ?_)
                exact pt_d (pt_iret gx102_34 ⟨_, rfl, S, G, I⟩)
theorem wk_102 {n : Nat} {X : aX} {h : aH} {q0 : Nat} {x1 : Int32} {a1 : Int} (S : wS h) (z1 : x1.toInt = a1) (I : IV h) : Pt n X zM102 0 [some (.ref q0), some (.int x1), none] [] h (qI (fun _ h' => wS h' ∧ hk h h' ∧ IV h')) := (wl_102 n) h h q0 x1 S (hk_r h) I
theorem wl_2 {X : aX} : ∀ n : Nat, (∀ (h0 h : aH) (x1 : Int32) (x2 : Int32) (x3 : Int32), wS h → hk h0 h → IV h → Pt n X zM2 0 [some (.ref 41), some (.int x1), some (.int x2), some (.int x3), none, none, none, none] [] h (qN (fun h' => wS h' ∧ hk h0 h' ∧ IV h'))) ∧
    (∀ (h0 h : aH) (x1 : Int32) (x2 : Int32) (x3 : Int32) (q4 : Nat) (x5 : Int32) (x6 : Int32) (xs1 : Int32) (xs2 : Int32), wS h → hk h0 h → IV h → Pt n X zM2 94 [some (.ref 41), some (.int x1), some (.int x2), some (.int x3), some (.ref q4), some (.int x5), some (.int x6), none] [.int xs2, .int xs1, .ref 43] h (qN (fun h' => wS h' ∧ hk h0 h' ∧ IV h'))) ∧
    (∀ (h0 h : aH) (x1 : Int32) (x2 : Int32) (x3 : Int32) (q4 : Nat) (x5 : Int32) (x6 : Int32) (xs1 : Int32) (xs2 : Int32), wS h → hk h0 h → IV h → Pt n X zM2 130 [some (.ref 41), some (.int x1), some (.int x2), some (.int x3), some (.ref q4), some (.int x5), some (.int x6), none] [.int xs2, .int xs1, .ref 43] h (qN (fun h' => wS h' ∧ hk h0 h' ∧ IV h'))) ∧
    (∀ (h0 h : aH) (x1 : Int32) (x2 : Int32) (x3 : Int32) (q4 : Nat) (x5 : Int32) (x6 : Int32) (xs1 : Int32) (xs2 : Int32), wS h → hk h0 h → IV h → Pt n X zM2 166 [some (.ref 41), some (.int x1), some (.int x2), some (.int x3), some (.ref q4), some (.int x5), some (.int x6), none] [.int xs2, .int xs1, .ref 43] h (qN (fun h' => wS h' ∧ hk h0 h' ∧ IV h'))) ∧
    (∀ (h0 h : aH) (x1 : Int32) (x2 : Int32) (x3 : Int32) (q4 : Nat) (x5 : Int32) (x6 : Int32) (xs1 : Int32) (xs2 : Int32), wS h → hk h0 h → IV h → Pt n X zM2 226 [some (.ref 41), some (.int x1), some (.int x2), some (.int x3), some (.ref q4), some (.int x5), some (.int x6), none] [.int xs2, .int xs1, .ref 43] h (qN (fun h' => wS h' ∧ hk h0 h' ∧ IV h'))) ∧
    (∀ (h0 h : aH) (x1 : Int32) (x2 : Int32) (x3 : Int32) (q4 : Nat) (x5 : Int32) (x6 : Int32) (x7 : Int32), wS h → hk h0 h → IV h → Pt n X zM2 238 [some (.ref 41), some (.int x1), some (.int x2), some (.int x3), some (.ref q4), some (.int x5), some (.int x6), some (.int x7)] [] h (qN (fun h' => wS h' ∧ hk h0 h' ∧ IV h'))) ∧
    (∀ (h0 h : aH) (x1 : Int32) (x2 : Int32) (x3 : Int32) (q4 : Nat) (x5 : Int32) (x6 : Int32) (x7 : Int32) (xs1 : Int32) (xs2 : Int32) (xs3 : Int32), wS h → hk h0 h → IV h → Pt n X zM2 272 [some (.ref 41), some (.int x1), some (.int x2), some (.int x3), some (.ref q4), some (.int x5), some (.int x6), some (.int x7)] [.int xs3, .int xs2, .int xs1, .ref 43] h (qN (fun h' => wS h' ∧ hk h0 h' ∧ IV h'))) := by
  intro n
  induction n with
  | zero => refine ⟨?_, ?_, ?_, ?_, ?_, ?_, ?_⟩ <;> (intros; exact pt_z)
  | succ n ih =>
    obtain ⟨ih2_0, ih2_94, ih2_130, ih2_166, ih2_226, ih2_238, ih2_272⟩ := ih
    refine ⟨?_, ?_, ?_, ?_, ?_, ?_, ?_⟩
    · intro h0 h x1 x2 x3 S G I
      obtain ⟨a1, z1⟩ : ∃ a : Int, x1.toInt = a := ⟨_, rfl⟩
      obtain ⟨a2, z2⟩ : ∃ a : Int, x2.toInt = a := ⟨_, rfl⟩
      obtain ⟨a3, z3⟩ : ∃ a : Int, x3.toInt = a := ⟨_, rfl⟩
      refine pt_1 (fun n d => r_aloadn gx2_0 rfl) ?_
      refine pt_d (pt_1 (fun n d => r_iloadn gx2_1 rfl) ?_)
      refine pt_d (pt_1 (fun n d => r_iloadn gx2_2 rfl) ?_)
      refine pt_d (pt_virt (as := [.int x2, .int x3]) (r := []) gx2_3 rfl (show zmt[1]? = some zM1 from rfl) rfl rfl rfl rfl (wk_1 S z2 z3 I) (kqR (fun q1001 h_1001 P1001 => ?_)))
      have S1001 := P1001.1
      have G1001 := hk_t G P1001.2.1
      have I1001 := P1001.2.2
      show Pt _ _ _ 6 _ [.ref q1001] _ _
      refine pt_d (pt_1 (fun n d => r_astore (L' := [some (.ref 41), some (.int x1), some (.int x2), some (.int x3), some (.ref q1001), none, none, none]) gx2_6 rfl rfl) ?_)
      refine pt_d (pt_1 (fun n d => r_aload gx2_8 rfl) ?_)
      refine pt_d (pt_getD (B := 10) gx2_10 S1001 (fun k1002 => ?_) (fun q1002 k1002 => ?_))
      · skip
        refine pt_d (pt_1 (fun n d => r_iloadn gx2_13 rfl) ?_)
        exact pt_d (pt_ialdN gx2_14)
      · skip
        refine pt_d (pt_1 (fun n d => r_iloadn gx2_13 rfl) ?_)
        refine pt_d (pt_ialdD gx2_14 z1 (fun v1004 p1004 h1004 => ?_))
        refine pt_d (pt_1 (fun n d => r_istore (L' := [some (.ref 41), some (.int x1), some (.int x2), some (.int x3), some (.ref q1001), some (.int v1004), none, none]) gx2_15 rfl rfl) ?_)
        refine pt_d (pt_1 (fun n d => r_aloadn gx2_17 rfl) ?_)
        refine pt_d (pt_1 (fun n d => r_aload gx2_18 rfl) ?_)
        refine pt_d (pt_1 (fun n d => r_iloadn gx2_20 rfl) ?_)
        refine pt_d (pt_virt (as := [.ref q1001, .int x1]) (r := []) gx2_21 rfl (show zmt[3]? = some zM3 from rfl) rfl rfl rfl rfl (wk_3 S1001 z1 I1001) (kqI (fun v1005 y1005 h_1005 h1005 P1005 => ?_)))
        have S1005 := P1005.1
        have G1005 := hk_t G1001 P1005.2.1
        have I1005 := P1005.2.2
        show Pt _ _ _ 24 _ [.int v1005] _ _
        refine pt_d (pt_1 (fun n d => r_istore (L' := [some (.ref 41), some (.int x1), some (.int x2), some (.int x3), some (.ref q1001), some (.int v1004), some (.int v1005), none]) gx2_24 rfl rfl) ?_)
        refine pt_d (pt_1 (fun n d => r_aloadn gx2_26 rfl) ?_)
        refine pt_d (pt_getR gx2_27 S1005 tr_41_4 ?_)
        refine pt_d (pt_iconst gx2_30 (fun v1007 h1007 => ?_))
        refine pt_d (pt_1 (fun n d => r_iloadn gx2_31 rfl) ?_)
        refine pt_d (pt_iasth (N' := 13) gx2_32 S1005 tl_43 h1007 z2 (fun h_1008 S1008 p1008 q1008 e1008 K1008 => ?_))
        have G1008 := hk_t G1005 K1008
        have I1008 := IV_ua I1005 K1008 e1008 (by decide)
        refine pt_d (pt_1 (fun n d => r_aloadn gx2_33 rfl) ?_)
        refine pt_d (pt_getR gx2_34 S1008 tr_41_4 ?_)
        refine pt_d (pt_iconst gx2_37 (fun v1010 h1010 => ?_))
        refine pt_d (pt_1 (fun n d => r_aloadn gx2_38 rfl) ?_)
        refine pt_d (pt_getR gx2_39 S1008 tr_41_0 ?_)
        refine pt_d (pt_getR gx2_42 S1008 tr_1_7 ?_)
        refine pt_d (pt_1 (fun n d => r_iloadn gx2_45 rfl) ?_)
        refine pt_d (pt_iald (N' := 150) gx2_46 S1008 tl_2 z1 (fun v1013 p1013 q1013 h1013 => ?_))
        have h1013 : v1013.toInt = vw h_1005 2 a1 := by rw [h1013, e1008, up_c (by decide)]
        refine pt_d (pt_iasth (N' := 13) gx2_47 S1008 tl_43 h1010 h1013 (fun h_1014 S1014 p1014 q1014 e1014 K1014 => ?_))
        have G1014 := hk_t G1008 K1014
        have I1014 := IV_ua I1008 K1014 e1014 (by decide)
        refine pt_d (pt_1 (fun n d => r_aloadn gx2_48 rfl) ?_)
        refine pt_d (pt_getR gx2_49 S1014 tr_41_4 ?_)
        refine pt_d (pt_iconst gx2_52 (fun v1016 h1016 => ?_))
        refine pt_d (pt_1 (fun n d => r_iload gx2_53 rfl) ?_)
        refine pt_d (pt_iasth (N' := 13) gx2_55 S1014 tl_43 h1016 h1004 (fun h_1017 S1017 p1017 q1017 e1017 K1017 => ?_))
        have G1017 := hk_t G1014 K1017
        have I1017 := IV_ua I1014 K1017 e1017 (by decide)
        refine pt_d (pt_1 (fun n d => r_aloadn gx2_56 rfl) ?_)
        refine pt_d (pt_getR gx2_57 S1017 tr_41_4 ?_)
        refine pt_d (pt_iconst gx2_60 (fun v1019 h1019 => ?_))
        refine pt_d (pt_1 (fun n d => r_iload gx2_61 rfl) ?_)
        refine pt_d (pt_1 (fun n d => r_aload gx2_63 rfl) ?_)
        refine pt_d (pt_getD (B := 11) gx2_65 S1017 (fun k1020 => ?_) (fun q1020 k1020 => ?_))
        · skip
          refine pt_d (pt_1 (fun n d => r_iloadn gx2_68 rfl) ?_)
          exact pt_d (pt_ialdN gx2_69)
        · skip
          refine pt_d (pt_1 (fun n d => r_iloadn gx2_68 rfl) ?_)
          refine pt_d (pt_ialdD gx2_69 z1 (fun v1022 p1022 h1022 => ?_))
          refine pt_d (pt_isub gx2_70 h1004 h1022 (fun v1023 h1023 => ?_))
          refine pt_d (pt_iasth (N' := 13) gx2_71 S1017 tl_43 h1019 h1023 (fun h_1024 S1024 p1024 q1024 e1024 K1024 => ?_))
          have G1024 := hk_t G1017 K1024
          have I1024 := IV_ua I1017 K1024 e1024 (by decide)
          refine pt_d (pt_1 (fun n d => r_aloadn gx2_72 rfl) ?_)
          refine pt_d (pt_getR gx2_73 S1024 tr_41_4 ?_)
          refine pt_d (pt_iconst gx2_76 (fun v1026 h1026 => ?_))
          refine pt_d (pt_1 (fun n d => r_iload gx2_77 rfl) ?_)
          refine pt_d (pt_if_ne gx2_79 h1004 (fun e1027 => ?_) (fun e1027 => ?_))
          · skip
            refine pt_d (pt_bipush gx2_86 (fun v1028 h1028 => ?_))
            refine pt_d (pt_1 (fun n d => r_iload gx2_88 rfl) ?_)
            refine pt_d (pt_imul gx2_90 h1028 h1005 (fun v1029 h1029 => ?_))
            refine pt_d (pt_1 (fun n d => r_iload gx2_91 rfl) ?_)
            refine pt_d (pt_idiv gx2_93 h1029 h1004 (fun v1030 h1030 => ?_))
            exact ih2_94 h0 h_1024 x1 x2 x3 q1001 v1004 v1005 v1026 v1030 S1024 G1024 I1024
          · skip
            refine pt_d (pt_iconst gx2_82 (fun v1031 h1031 => ?_))
            refine pt_d (pt_1 (fun n d => r_goto gx2_83) ?_)
            exact ih2_94 h0 h_1024 x1 x2 x3 q1001 v1004 v1005 v1026 v1031 S1024 G1024 I1024
    · intro h0 h x1 x2 x3 q4 x5 x6 xs1 xs2 S G I
      obtain ⟨a1, z1⟩ : ∃ a : Int, x1.toInt = a := ⟨_, rfl⟩
      obtain ⟨a2, z2⟩ : ∃ a : Int, x2.toInt = a := ⟨_, rfl⟩
      obtain ⟨a3, z3⟩ : ∃ a : Int, x3.toInt = a := ⟨_, rfl⟩
      obtain ⟨a5, z5⟩ : ∃ a : Int, x5.toInt = a := ⟨_, rfl⟩
      obtain ⟨a6, z6⟩ : ∃ a : Int, x6.toInt = a := ⟨_, rfl⟩
      obtain ⟨as1, zs1⟩ : ∃ a : Int, xs1.toInt = a := ⟨_, rfl⟩
      obtain ⟨as2, zs2⟩ : ∃ a : Int, xs2.toInt = a := ⟨_, rfl⟩
      refine pt_iasth (N' := 13) gx2_94 S tl_43 zs1 zs2 (fun h_1001 S1001 p1001 q1001 e1001 K1001 => ?_)
      have G1001 := hk_t G K1001
      have I1001 := IV_ua I K1001 e1001 (by decide)
      refine pt_d (pt_1 (fun n d => r_aloadn gx2_95 rfl) ?_)
      refine pt_d (pt_getR gx2_96 S1001 tr_41_4 ?_)
      refine pt_d (pt_iconst gx2_99 (fun v1003 h1003 => ?_))
      refine pt_d (pt_1 (fun n d => r_aloadn gx2_100 rfl) ?_)
      refine pt_d (pt_virt (as := []) (r := [.int v1003, .ref 43]) gx2_101 rfl (show zmt[4]? = some zM4 from rfl) rfl rfl rfl rfl (wk_4 S1001 I1001) (kqI (fun v1004 y1004 h_1004 h1004 P1004 => ?_)))
      have S1004 := P1004.1
      have G1004 := hk_t G1001 P1004.2.1
      have I1004 := P1004.2.2
      show Pt _ _ _ 104 _ [.int v1004, .int v1003, .ref 43] _ _
      refine pt_d (pt_iasth (N' := 13) gx2_104 S1004 tl_43 h1003 h1004 (fun h_1005 S1005 p1005 q1005 e1005 K1005 => ?_))
      have G1005 := hk_t G1004 K1005
      have I1005 := IV_ua I1004 K1005 e1005 (by decide)
      refine pt_d (pt_1 (fun n d => r_aloadn gx2_105 rfl) ?_)
      refine pt_d (pt_getR gx2_106 S1005 tr_41_4 ?_)
      refine pt_d (pt_bipush gx2_109 (fun v1007 h1007 => ?_))
      refine pt_d (pt_1 (fun n d => r_iload gx2_111 rfl) ?_)
      refine pt_d (pt_if_ne gx2_113 z5 (fun e1008 => ?_) (fun e1008 => ?_))
      · skip
        refine pt_d (pt_bipush gx2_120 (fun v1009 h1009 => ?_))
        refine pt_d (pt_1 (fun n d => r_aloadn gx2_122 rfl) ?_)
        refine pt_d (pt_virt (as := []) (r := [.int v1009, .int v1007, .ref 43]) gx2_123 rfl (show zmt[5]? = some zM5 from rfl) rfl rfl rfl rfl (wk_5 S1005 I1005) (kqI (fun v1010 y1010 h_1010 h1010 P1010 => ?_)))
        have S1010 := P1010.1
        have G1010 := hk_t G1005 P1010.2.1
        have I1010 := P1010.2.2
        show Pt _ _ _ 126 _ [.int v1010, .int v1009, .int v1007, .ref 43] _ _
        refine pt_d (pt_imul gx2_126 h1009 h1010 (fun v1011 h1011 => ?_))
        refine pt_d (pt_1 (fun n d => r_iload gx2_127 rfl) ?_)
        refine pt_d (pt_idiv gx2_129 h1011 z5 (fun v1012 h1012 => ?_))
        exact ih2_130 h0 h_1010 x1 x2 x3 q4 x5 x6 v1007 v1012 S1010 G1010 I1010
      · skip
        refine pt_d (pt_iconst gx2_116 (fun v1013 h1013 => ?_))
        refine pt_d (pt_1 (fun n d => r_goto gx2_117) ?_)
        exact ih2_130 h0 h_1005 x1 x2 x3 q4 x5 x6 v1007 v1013 S1005 G1005 I1005
    · intro h0 h x1 x2 x3 q4 x5 x6 xs1 xs2 S G I
      obtain ⟨a1, z1⟩ : ∃ a : Int, x1.toInt = a := ⟨_, rfl⟩
      obtain ⟨a2, z2⟩ : ∃ a : Int, x2.toInt = a := ⟨_, rfl⟩
      obtain ⟨a3, z3⟩ : ∃ a : Int, x3.toInt = a := ⟨_, rfl⟩
      obtain ⟨a5, z5⟩ : ∃ a : Int, x5.toInt = a := ⟨_, rfl⟩
      obtain ⟨a6, z6⟩ : ∃ a : Int, x6.toInt = a := ⟨_, rfl⟩
      obtain ⟨as1, zs1⟩ : ∃ a : Int, xs1.toInt = a := ⟨_, rfl⟩
      obtain ⟨as2, zs2⟩ : ∃ a : Int, xs2.toInt = a := ⟨_, rfl⟩
      refine pt_iasth (N' := 13) gx2_130 S tl_43 zs1 zs2 (fun h_1001 S1001 p1001 q1001 e1001 K1001 => ?_)
      have G1001 := hk_t G K1001
      have I1001 := IV_ua I K1001 e1001 (by decide)
      refine pt_d (pt_1 (fun n d => r_aloadn gx2_131 rfl) ?_)
      refine pt_d (pt_getR gx2_132 S1001 tr_41_4 ?_)
      refine pt_d (pt_bipush gx2_135 (fun v1003 h1003 => ?_))
      refine pt_d (pt_1 (fun n d => r_aload gx2_137 rfl) ?_)
      refine pt_d (pt_getD (B := 12) gx2_139 S1001 (fun k1004 => ?_) (fun q1004 k1004 => ?_))
      · skip
        refine pt_d (pt_1 (fun n d => r_iloadn gx2_142 rfl) ?_)
        exact pt_d (pt_ialdN gx2_143)
      · skip
        refine pt_d (pt_1 (fun n d => r_iloadn gx2_142 rfl) ?_)
        refine pt_d (pt_ialdD gx2_143 z1 (fun v1006 p1006 h1006 => ?_))
        refine pt_d (pt_iconst gx2_144 (fun v1007 h1007 => ?_))
        refine pt_d (pt_icmp_ne gx2_145 h1006 h1007 (fun e1008 => ?_) (fun e1008 => ?_))
        · skip
          refine pt_d (pt_1 (fun n d => r_aloadn gx2_152 rfl) ?_)
          refine pt_d (pt_getR gx2_153 S1001 tr_41_1 ?_)
          refine pt_d (pt_1 (fun n d => r_aload gx2_156 rfl) ?_)
          refine pt_d (pt_getD (B := 12) gx2_158 S1001 (fun k1010 => ?_) (fun q1010 k1010 => ?_))
          · skip
            refine pt_d (pt_1 (fun n d => r_iloadn gx2_161 rfl) ?_)
            exact pt_d (pt_ialdN gx2_162)
          · skip
            refine pt_d (pt_1 (fun n d => r_iloadn gx2_161 rfl) ?_)
            refine pt_d (pt_ialdD gx2_162 z1 (fun v1012 p1012 h1012 => ?_))
            refine pt_d (pt_virt (as := [.int v1012]) (r := [.int v1003, .ref 43]) gx2_163 rfl (show zmt[31]? = some zM31 from rfl) rfl rfl rfl rfl (c_31 S1001 h1012) (kqP (fun v1013 h1013 => ?_)))
            show Pt _ _ _ 166 _ [.int v1013, .int v1003, .ref 43] _ _
            exact ih2_166 h0 h_1001 x1 x2 x3 q4 x5 x6 v1003 v1013 S1001 G1001 I1001
        · skip
          refine pt_d (pt_iconst gx2_148 (fun v1014 h1014 => ?_))
          refine pt_d (pt_1 (fun n d => r_goto gx2_149) ?_)
          exact ih2_166 h0 h_1001 x1 x2 x3 q4 x5 x6 v1003 v1014 S1001 G1001 I1001
    · intro h0 h x1 x2 x3 q4 x5 x6 xs1 xs2 S G I
      obtain ⟨a1, z1⟩ : ∃ a : Int, x1.toInt = a := ⟨_, rfl⟩
      obtain ⟨a2, z2⟩ : ∃ a : Int, x2.toInt = a := ⟨_, rfl⟩
      obtain ⟨a3, z3⟩ : ∃ a : Int, x3.toInt = a := ⟨_, rfl⟩
      obtain ⟨a5, z5⟩ : ∃ a : Int, x5.toInt = a := ⟨_, rfl⟩
      obtain ⟨a6, z6⟩ : ∃ a : Int, x6.toInt = a := ⟨_, rfl⟩
      obtain ⟨as1, zs1⟩ : ∃ a : Int, xs1.toInt = a := ⟨_, rfl⟩
      obtain ⟨as2, zs2⟩ : ∃ a : Int, xs2.toInt = a := ⟨_, rfl⟩
      refine pt_iasth (N' := 13) gx2_166 S tl_43 zs1 zs2 (fun h_1001 S1001 p1001 q1001 e1001 K1001 => ?_)
      have G1001 := hk_t G K1001
      have I1001 := IV_ua I K1001 e1001 (by decide)
      refine pt_d (pt_1 (fun n d => r_aloadn gx2_167 rfl) ?_)
      refine pt_d (pt_getR gx2_168 S1001 tr_41_4 ?_)
      refine pt_d (pt_bipush gx2_171 (fun v1003 h1003 => ?_))
      refine pt_d (pt_1 (fun n d => r_aload gx2_173 rfl) ?_)
      refine pt_d (pt_1 (fun n d => r_iloadn gx2_175 rfl) ?_)
      refine pt_d (pt_virt (as := [.int x1]) (r := [.int v1003, .ref 43]) gx2_176 rfl (show zmt[102]? = some zM102 from rfl) rfl rfl rfl rfl (wk_102 S1001 z1 I1001) (kqI (fun v1004 y1004 h_1004 h1004 P1004 => ?_)))
      have S1004 := P1004.1
      have G1004 := hk_t G1001 P1004.2.1
      have I1004 := P1004.2.2
      show Pt _ _ _ 179 _ [.int v1004, .int v1003, .ref 43] _ _
      refine pt_d (pt_iasth (N' := 13) gx2_179 S1004 tl_43 h1003 h1004 (fun h_1005 S1005 p1005 q1005 e1005 K1005 => ?_))
      have G1005 := hk_t G1004 K1005
      have I1005 := IV_ua I1004 K1005 e1005 (by decide)
      refine pt_d (pt_1 (fun n d => r_aloadn gx2_180 rfl) ?_)
      refine pt_d (pt_getR gx2_181 S1005 tr_41_4 ?_)
      refine pt_d (pt_bipush gx2_184 (fun v1007 h1007 => ?_))
      refine pt_d (pt_1 (fun n d => r_aloadn gx2_186 rfl) ?_)
      refine pt_d (pt_1 (fun n d => r_iloadn gx2_187 rfl) ?_)
      refine pt_d (pt_1 (fun n d => r_iloadn gx2_188 rfl) ?_)
      refine pt_d (pt_1 (fun n d => r_iloadn gx2_189 rfl) ?_)
      refine pt_d (pt_virt (as := [.int x1, .int x2, .int x3]) (r := [.int v1007, .ref 43]) gx2_190 rfl (show zmt[6]? = some zM6 from rfl) rfl rfl rfl rfl (wk_6 S1005 z1 z2 z3 I1005) (kqI (fun v1008 y1008 h_1008 h1008 P1008 => ?_)))
      have S1008 := P1008.1
      have G1008 := hk_t G1005 P1008.2.1
      have I1008 := P1008.2.2
      show Pt _ _ _ 193 _ [.int v1008, .int v1007, .ref 43] _ _
      refine pt_d (pt_iasth (N' := 13) gx2_193 S1008 tl_43 h1007 h1008 (fun h_1009 S1009 p1009 q1009 e1009 K1009 => ?_))
      have G1009 := hk_t G1008 K1009
      have I1009 := IV_ua I1008 K1009 e1009 (by decide)
      refine pt_d (pt_1 (fun n d => r_aloadn gx2_194 rfl) ?_)
      refine pt_d (pt_getR gx2_195 S1009 tr_41_4 ?_)
      refine pt_d (pt_bipush gx2_198 (fun v1011 h1011 => ?_))
      refine pt_d (pt_iconst gx2_200 (fun v1012 h1012 => ?_))
      refine pt_d (pt_iasth (N' := 13) gx2_201 S1009 tl_43 h1011 h1012 (fun h_1013 S1013 p1013 q1013 e1013 K1013 => ?_))
      have G1013 := hk_t G1009 K1013
      have I1013 := IV_ua I1009 K1013 e1013 (by decide)
      refine pt_d (pt_1 (fun n d => r_aloadn gx2_202 rfl) ?_)
      refine pt_d (pt_getR gx2_203 S1013 tr_41_4 ?_)
      refine pt_d (pt_bipush gx2_206 (fun v1015 h1015 => ?_))
      refine pt_d (pt_1 (fun n d => r_aloadn gx2_208 rfl) ?_)
      refine pt_d (pt_getR gx2_209 S1013 tr_41_1 ?_)
      refine pt_d (pt_1 (fun n d => r_iloadn gx2_212 rfl) ?_)
      refine pt_d (pt_1 (fun n d => r_iloadn gx2_213 rfl) ?_)
      refine pt_d (pt_1 (fun n d => r_iloadn gx2_214 rfl) ?_)
      refine pt_d (pt_virt (as := [.int x1, .int x2, .int x3]) (r := [.int v1015, .ref 43]) gx2_215 rfl (show zmt[38]? = some zM38 from rfl) rfl rfl rfl rfl (wk_38 S1013 z1 z2 z3 I1013) (kqI (fun v1017 y1017 h_1017 h1017 P1017 => ?_)))
      have S1017 := P1017.1
      have G1017 := hk_t G1013 P1017.2.1
      have I1017 := P1017.2.2
      show Pt _ _ _ 218 _ [.int v1017, .int v1015, .ref 43] _ _
      refine pt_d (pt_if_eq gx2_218 h1017 (fun e1018 => ?_) (fun e1018 => ?_))
      · skip
        refine pt_d (pt_iconst gx2_225 (fun v1019 h1019 => ?_))
        exact ih2_226 h0 h_1017 x1 x2 x3 q4 x5 x6 v1015 v1019 S1017 G1017 I1017
      · skip
        refine pt_d (pt_iconst gx2_221 (fun v1020 h1020 => ?_))
        refine pt_d (pt_1 (fun n d => r_goto gx2_222) ?_)
        exact ih2_226 h0 h_1017 x1 x2 x3 q4 x5 x6 v1015 v1020 S1017 G1017 I1017
    · intro h0 h x1 x2 x3 q4 x5 x6 xs1 xs2 S G I
      obtain ⟨a1, z1⟩ : ∃ a : Int, x1.toInt = a := ⟨_, rfl⟩
      obtain ⟨a2, z2⟩ : ∃ a : Int, x2.toInt = a := ⟨_, rfl⟩
      obtain ⟨a3, z3⟩ : ∃ a : Int, x3.toInt = a := ⟨_, rfl⟩
      obtain ⟨a5, z5⟩ : ∃ a : Int, x5.toInt = a := ⟨_, rfl⟩
      obtain ⟨a6, z6⟩ : ∃ a : Int, x6.toInt = a := ⟨_, rfl⟩
      obtain ⟨as1, zs1⟩ : ∃ a : Int, xs1.toInt = a := ⟨_, rfl⟩
      obtain ⟨as2, zs2⟩ : ∃ a : Int, xs2.toInt = a := ⟨_, rfl⟩
      refine pt_iasth (N' := 13) gx2_226 S tl_43 zs1 zs2 (fun h_1001 S1001 p1001 q1001 e1001 K1001 => ?_)
      have G1001 := hk_t G K1001
      have I1001 := IV_ua I K1001 e1001 (by decide)
      refine pt_d (pt_1 (fun n d => r_aloadn gx2_227 rfl) ?_)
      refine pt_d (pt_getR gx2_228 S1001 tr_41_4 ?_)
      refine pt_d (pt_bipush gx2_231 (fun v1003 h1003 => ?_))
      refine pt_d (pt_iconst gx2_233 (fun v1004 h1004 => ?_))
      refine pt_d (pt_iasth (N' := 13) gx2_234 S1001 tl_43 h1003 h1004 (fun h_1005 S1005 p1005 q1005 e1005 K1005 => ?_))
      have G1005 := hk_t G1001 K1005
      have I1005 := IV_ua I1001 K1005 e1005 (by decide)
      refine pt_d (pt_iconst gx2_235 (fun v1006 h1006 => ?_))
      refine pt_d (pt_1 (fun n d => r_istore (L' := [some (.ref 41), some (.int x1), some (.int x2), some (.int x3), some (.ref q4), some (.int x5), some (.int x6), some (.int v1006)]) gx2_236 rfl rfl) ?_)
      exact ih2_238 h0 h_1005 x1 x2 x3 q4 x5 x6 v1006 S1005 G1005 I1005
    · intro h0 h x1 x2 x3 q4 x5 x6 x7 S G I
      obtain ⟨a1, z1⟩ : ∃ a : Int, x1.toInt = a := ⟨_, rfl⟩
      obtain ⟨a2, z2⟩ : ∃ a : Int, x2.toInt = a := ⟨_, rfl⟩
      obtain ⟨a3, z3⟩ : ∃ a : Int, x3.toInt = a := ⟨_, rfl⟩
      obtain ⟨a5, z5⟩ : ∃ a : Int, x5.toInt = a := ⟨_, rfl⟩
      obtain ⟨a6, z6⟩ : ∃ a : Int, x6.toInt = a := ⟨_, rfl⟩
      obtain ⟨a7, z7⟩ : ∃ a : Int, x7.toInt = a := ⟨_, rfl⟩
      refine pt_1 (fun n d => r_iload gx2_238 rfl) ?_
      refine pt_d (pt_1 (fun n d => r_iloadn gx2_240 rfl) ?_)
      refine pt_d (pt_icmp_ge gx2_241 z7 z2 (fun e1001 => ?_) (fun e1001 => ?_))
      · skip
        exact pt_d (pt_vret gx2_280 ⟨rfl, S, G, I⟩)
      · skip
        refine pt_d (pt_1 (fun n d => r_aloadn gx2_244 rfl) ?_)
        refine pt_d (pt_getR gx2_245 S tr_41_4 ?_)
        refine pt_d (pt_bipush gx2_248 (fun v1003 h1003 => ?_))
        refine pt_d (pt_1 (fun n d => r_dup2 gx2_250 rfl) ?_)
        refine pt_d (pt_iald (N' := 13) gx2_251 S tl_43 h1003 (fun v1004 p1004 q1004 h1004 => ?_))
        refine pt_d (pt_1 (fun n d => r_aloadn gx2_252 rfl) ?_)
        refine pt_d (pt_1 (fun n d => r_iload gx2_253 rfl) ?_)
        refine pt_d (pt_1 (fun n d => r_iloadn gx2_255 rfl) ?_)
        refine pt_d (pt_virt (as := [.int x7, .int x3]) (r := [.int v1004, .int v1003, .ref 43]) gx2_256 rfl (show zmt[1]? = some zM1 from rfl) rfl rfl rfl rfl (wk_1 S z7 z3 I) (kqR (fun q1005 h_1005 P1005 => ?_)))
        have S1005 := P1005.1
        have G1005 := hk_t G P1005.2.1
        have I1005 := P1005.2.2
        show Pt _ _ _ 259 _ [.ref q1005, .int v1004, .int v1003, .ref 43] _ _
        refine pt_d (pt_getD (B := 11) gx2_259 S1005 (fun k1006 => ?_) (fun q1006 k1006 => ?_))
        · skip
          refine pt_d (pt_1 (fun n d => r_iloadn gx2_262 rfl) ?_)
          exact pt_d (pt_ialdN gx2_263)
        · skip
          refine pt_d (pt_1 (fun n d => r_iloadn gx2_262 rfl) ?_)
          refine pt_d (pt_ialdD gx2_263 z1 (fun v1008 p1008 h1008 => ?_))
          refine pt_d (pt_if_le gx2_264 h1008 (fun e1009 => ?_) (fun e1009 => ?_))
          · skip
            refine pt_d (pt_iconst gx2_271 (fun v1010 h1010 => ?_))
            exact ih2_272 h0 h_1005 x1 x2 x3 q4 x5 x6 x7 v1003 v1004 v1010 S1005 G1005 I1005
          · skip
            refine pt_d (pt_iconst gx2_267 (fun v1011 h1011 => ?_))
            refine pt_d (pt_1 (fun n d => r_goto gx2_268) ?_)
            exact ih2_272 h0 h_1005 x1 x2 x3 q4 x5 x6 x7 v1003 v1004 v1011 S1005 G1005 I1005
    · intro h0 h x1 x2 x3 q4 x5 x6 x7 xs1 xs2 xs3 S G I
      obtain ⟨a1, z1⟩ : ∃ a : Int, x1.toInt = a := ⟨_, rfl⟩
      obtain ⟨a2, z2⟩ : ∃ a : Int, x2.toInt = a := ⟨_, rfl⟩
      obtain ⟨a3, z3⟩ : ∃ a : Int, x3.toInt = a := ⟨_, rfl⟩
      obtain ⟨a5, z5⟩ : ∃ a : Int, x5.toInt = a := ⟨_, rfl⟩
      obtain ⟨a6, z6⟩ : ∃ a : Int, x6.toInt = a := ⟨_, rfl⟩
      obtain ⟨a7, z7⟩ : ∃ a : Int, x7.toInt = a := ⟨_, rfl⟩
      obtain ⟨as1, zs1⟩ : ∃ a : Int, xs1.toInt = a := ⟨_, rfl⟩
      obtain ⟨as2, zs2⟩ : ∃ a : Int, xs2.toInt = a := ⟨_, rfl⟩
      obtain ⟨as3, zs3⟩ : ∃ a : Int, xs3.toInt = a := ⟨_, rfl⟩
      refine pt_iadd gx2_272 zs2 zs3 (fun v1001 h1001 => ?_)
      refine pt_d (pt_iasth (N' := 13) gx2_273 S tl_43 zs1 h1001 (fun h_1002 S1002 p1002 q1002 e1002 K1002 => ?_))
      have G1002 := hk_t G K1002
      have I1002 := IV_ua I K1002 e1002 (by decide)
      refine pt_d (pt_iinc (c := 1) gx2_274 rfl z7 (fun v1003 h1003 => ?_))
      show Pt _ _ _ _ [some (.ref 41), some (.int x1), some (.int x2), some (.int x3), some (.ref q4), some (.int x5), some (.int x6), some (.int v1003)] [] _ _
      refine pt_d (pt_1 (fun n d => r_goto gx2_277) ?_)
      exact ih2_238 h0 h_1002 x1 x2 x3 q4 x5 x6 v1003 S1002 G1002 I1002
theorem wk_2 {n : Nat} {X : aX} {h : aH} {x1 : Int32} {x2 : Int32} {x3 : Int32} {a1 : Int} {a2 : Int} {a3 : Int} (S : wS h) (z1 : x1.toInt = a1) (z2 : x2.toInt = a2) (z3 : x3.toInt = a3) (I : IV h) : Pt n X zM2 0 [some (.ref 41), some (.int x1), some (.int x2), some (.int x3), none, none, none, none] [] h (qN (fun h' => wS h' ∧ hk h h' ∧ IV h')) := (wl_2 n).1 h h x1 x2 x3 S (hk_r h) I
theorem wl_9 {X : aX} : ∀ n : Nat, (∀ (h0 h : aH) (x0 : Int64), wS h → hk h0 h → IV h → Pt n X zM9 0 [some (.long x0), none] [] h (qI (fun _ h' => wS h' ∧ hk h0 h' ∧ IV h'))) := by
  intro n
  induction n with
  | zero => refine ?_ <;> (intros; exact pt_z)
  | succ n ih =>
    have ih9_0 := ih
    refine ?_
    · intro h0 h x0 S G I
      obtain ⟨a0, z0⟩ : ∃ a : Int, x0.toInt = a := ⟨_, rfl⟩
      refine pt_lconst (c := 0) gx9_0 rfl (fun v1001 h1001 => ?_)
      refine pt_d (pt_ldc2_w (c := 2000000000) gx9_1 rfl (fun v1002 h1002 => ?_))
      refine pt_d (pt_1 (fun n d => r_lloadn gx9_4 rfl) ?_)
      refine pt_d (pt_lmin gx9_5 rfl h1002 z0 (fun v1003 h1003 => ?_))
      refine pt_d (pt_lmax gx9_8 rfl h1001 h1003 (fun v1004 h1004 => ?_))
      refine pt_d (pt_l2i gx9_11 h1004 (fun v1005 h1005 => ?_))
      exact pt_d (pt_iret gx9_12 ⟨_, rfl, S, G, I⟩)
theorem wk_9 {n : Nat} {X : aX} {h : aH} {x0 : Int64} {a0 : Int} (S : wS h) (z0 : x0.toInt = a0) (I : IV h) : Pt n X zM9 0 [some (.long x0), none] [] h (qI (fun _ h' => wS h' ∧ hk h h' ∧ IV h')) := (wl_9 n) h h x0 S (hk_r h) I
theorem wl_10 {X : aX} : ∀ n : Nat, (∀ (h0 h : aH) (x1 : Int32) (x2 : Int32) (x3 : Int32) (x4 : Int32), wS h → hk h0 h → IV h → Pt n X zM10 0 [some (.ref 41), some (.int x1), some (.int x2), some (.int x3), some (.int x4), none, none, none, none, none, none] [] h (qJ (fun _ h' => wS h' ∧ hk h0 h' ∧ IV h'))) ∧
    (∀ (h0 h : aH) (x1 : Int32) (x2 : Int32) (x3 : Int32) (x4 : Int32) (x5 : Int64) (x7 : Int32) (x8 : Int32) (u9 : Option Value) (u10 : Option Value), wS h → hk h0 h → IV h → Pt n X zM10 9 [some (.ref 41), some (.int x1), some (.int x2), some (.int x3), some (.int x4), some (.long x5), none, some (.int x7), some (.int x8), u9, u10] [] h (qJ (fun _ h' => wS h' ∧ hk h0 h' ∧ IV h'))) := by
  intro n
  induction n with
  | zero => refine ⟨?_, ?_⟩ <;> (intros; exact pt_z)
  | succ n ih =>
    obtain ⟨ih10_0, ih10_9⟩ := ih
    refine ⟨?_, ?_⟩
    · intro h0 h x1 x2 x3 x4 S G I
      obtain ⟨a1, z1⟩ : ∃ a : Int, x1.toInt = a := ⟨_, rfl⟩
      obtain ⟨a2, z2⟩ : ∃ a : Int, x2.toInt = a := ⟨_, rfl⟩
      obtain ⟨a3, z3⟩ : ∃ a : Int, x3.toInt = a := ⟨_, rfl⟩
      obtain ⟨a4, z4⟩ : ∃ a : Int, x4.toInt = a := ⟨_, rfl⟩
      refine pt_lconst (c := 0) gx10_0 rfl (fun v1001 h1001 => ?_)
      refine pt_d (pt_1 (fun n d => r_lstore (L' := [some (.ref 41), some (.int x1), some (.int x2), some (.int x3), some (.int x4), some (.long v1001), none, none, none, none, none]) gx10_1 rfl rfl) ?_)
      refine pt_d (pt_1 (fun n d => r_iloadn gx10_3 rfl) ?_)
      refine pt_d (pt_1 (fun n d => r_istore (L' := [some (.ref 41), some (.int x1), some (.int x2), some (.int x3), some (.int x4), some (.long v1001), none, some (.int x1), none, none, none]) gx10_4 rfl rfl) ?_)
      refine pt_d (pt_iconst gx10_6 (fun v1002 h1002 => ?_))
      refine pt_d (pt_1 (fun n d => r_istore (L' := [some (.ref 41), some (.int x1), some (.int x2), some (.int x3), some (.int x4), some (.long v1001), none, some (.int x1), some (.int v1002), none, none]) gx10_7 rfl rfl) ?_)
      exact ih10_9 h0 h x1 x2 x3 x4 v1001 x1 v1002 _ _ S G I
    · intro h0 h x1 x2 x3 x4 x5 x7 x8 u9 u10 S G I
      obtain ⟨a1, z1⟩ : ∃ a : Int, x1.toInt = a := ⟨_, rfl⟩
      obtain ⟨a2, z2⟩ : ∃ a : Int, x2.toInt = a := ⟨_, rfl⟩
      obtain ⟨a3, z3⟩ : ∃ a : Int, x3.toInt = a := ⟨_, rfl⟩
      obtain ⟨a4, z4⟩ : ∃ a : Int, x4.toInt = a := ⟨_, rfl⟩
      obtain ⟨a5, z5⟩ : ∃ a : Int, x5.toInt = a := ⟨_, rfl⟩
      obtain ⟨a7, z7⟩ : ∃ a : Int, x7.toInt = a := ⟨_, rfl⟩
      obtain ⟨a8, z8⟩ : ∃ a : Int, x8.toInt = a := ⟨_, rfl⟩
      refine pt_1 (fun n d => r_iload gx10_9 rfl) ?_
      refine pt_d (pt_1 (fun n d => r_aloadn gx10_11 rfl) ?_)
      refine pt_d (pt_getR gx10_12 S tr_41_0 ?_)
      refine pt_d (pt_getI (B := 4) gx10_15 S (fun v1002 h1002 => ?_))
      refine pt_d (pt_icmp_ge gx10_18 z8 h1002 (fun e1003 => ?_) (fun e1003 => ?_))
      · skip
        refine pt_d (pt_1 (fun n d => r_lload gx10_93 rfl) ?_)
        exact pt_d (pt_lret gx10_95 ⟨_, rfl, S, G, I⟩)
      · skip
        refine pt_d (pt_1 (fun n d => r_iload gx10_21 rfl) ?_)
        refine pt_d (pt_if_le gx10_23 z7 (fun e1004 => ?_) (fun e1004 => ?_))
        · skip
          refine pt_d (pt_1 (fun n d => r_lload gx10_93 rfl) ?_)
          exact pt_d (pt_lret gx10_95 ⟨_, rfl, S, G, I⟩)
        · skip
          refine pt_d (pt_1 (fun n d => r_aloadn gx10_26 rfl) ?_)
          refine pt_d (pt_getR gx10_27 S tr_41_0 ?_)
          refine pt_d (pt_getR gx10_30 S tr_1_11 ?_)
          refine pt_d (pt_1 (fun n d => r_iload gx10_33 rfl) ?_)
          refine pt_d (pt_iald (N' := 150) gx10_35 S tl_6 z8 (fun v1007 p1007 q1007 h1007 => ?_))
          refine pt_d (pt_1 (fun n d => r_istore (L' := [some (.ref 41), some (.int x1), some (.int x2), some (.int x3), some (.int x4), some (.long x5), none, some (.int x7), some (.int x8), some (.int v1007), u10]) gx10_36 rfl rfl) ?_)
          refine pt_d (pt_1 (fun n d => r_aloadn gx10_38 rfl) ?_)
          refine pt_d (pt_1 (fun n d => r_iloadn gx10_39 rfl) ?_)
          refine pt_d (pt_1 (fun n d => r_iload gx10_40 rfl) ?_)
          refine pt_d (pt_1 (fun n d => r_iloadn gx10_42 rfl) ?_)
          refine pt_d (pt_1 (fun n d => r_iload gx10_43 rfl) ?_)
          refine pt_d (pt_virt (as := [.int x2, .int v1007, .int x3, .int x4]) (r := []) gx10_45 rfl (show zmt[7]? = some zM7 from rfl) rfl rfl rfl rfl (wk_7 S z2 h1007 z3 z4 I) (kqI (fun v1008 y1008 h_1008 h1008 P1008 => ?_)))
          have S1008 := P1008.1
          have G1008 := hk_t G P1008.2.1
          have I1008 := P1008.2.2
          show Pt _ _ _ 48 _ [.int v1008] _ _
          refine pt_d (pt_if_eq gx10_48 h1008 (fun e1009 => ?_) (fun e1009 => ?_))
          · skip
            refine pt_d (pt_iinc (c := 1) gx10_87 rfl z8 (fun v1010 h1010 => ?_))
            show Pt _ _ _ _ [some (.ref 41), some (.int x1), some (.int x2), some (.int x3), some (.int x4), some (.long x5), none, some (.int x7), some (.int v1010), some (.int v1007), u10] [] _ _
            refine pt_d (pt_1 (fun n d => r_goto gx10_90) ?_)
            exact ih10_9 h0 h_1008 x1 x2 x3 x4 x5 x7 v1010 _ _ S1008 G1008 I1008
          · skip
            refine pt_d (pt_1 (fun n d => r_iload gx10_51 rfl) ?_)
            refine pt_d (pt_bipush gx10_53 (fun v1011 h1011 => ?_))
            refine pt_d (pt_min gx10_55 rfl z7 h1011 (fun v1012 h1012 => ?_))
            refine pt_d (pt_1 (fun n d => r_istore (L' := [some (.ref 41), some (.int x1), some (.int x2), some (.int x3), some (.int x4), some (.long x5), none, some (.int x7), some (.int x8), some (.int v1007), some (.int v1012)]) gx10_58 rfl rfl) ?_)
            refine pt_d (pt_1 (fun n d => r_lload gx10_60 rfl) ?_)
            refine pt_d (pt_1 (fun n d => r_iload gx10_62 rfl) ?_)
            refine pt_d (pt_i2l gx10_64 h1012 (fun v1013 h1013 => ?_))
            refine pt_d (pt_1 (fun n d => r_aloadn gx10_65 rfl) ?_)
            refine pt_d (pt_getR gx10_66 S1008 tr_41_0 ?_)
            refine pt_d (pt_getR gx10_69 S1008 tr_1_8 ?_)
            refine pt_d (pt_1 (fun n d => r_iload gx10_72 rfl) ?_)
            refine pt_d (pt_iald (N' := 150) gx10_74 S1008 tl_3 h1007 (fun v1016 p1016 q1016 h1016 => ?_))
            refine pt_d (pt_i2l gx10_75 h1016 (fun v1017 h1017 => ?_))
            refine pt_d (pt_lmul gx10_76 h1013 h1017 (fun v1018 h1018 => ?_))
            refine pt_d (pt_ladd gx10_77 z5 h1018 (fun v1019 h1019 => ?_))
            refine pt_d (pt_1 (fun n d => r_lstore (L' := [some (.ref 41), some (.int x1), some (.int x2), some (.int x3), some (.int x4), some (.long v1019), none, some (.int x7), some (.int x8), some (.int v1007), some (.int v1012)]) gx10_78 rfl rfl) ?_)
            refine pt_d (pt_1 (fun n d => r_iload gx10_80 rfl) ?_)
            refine pt_d (pt_1 (fun n d => r_iload gx10_82 rfl) ?_)
            refine pt_d (pt_isub gx10_84 z7 h1012 (fun v1020 h1020 => ?_))
            refine pt_d (pt_1 (fun n d => r_istore (L' := [some (.ref 41), some (.int x1), some (.int x2), some (.int x3), some (.int x4), some (.long v1019), none, some (.int v1020), some (.int x8), some (.int v1007), some (.int v1012)]) gx10_85 rfl rfl) ?_)
            refine pt_d (pt_iinc (c := 1) gx10_87 rfl z8 (fun v1021 h1021 => ?_))
            show Pt _ _ _ _ [some (.ref 41), some (.int x1), some (.int x2), some (.int x3), some (.int x4), some (.long v1019), none, some (.int v1020), some (.int v1021), some (.int v1007), some (.int v1012)] [] _ _
            refine pt_d (pt_1 (fun n d => r_goto gx10_90) ?_)
            exact ih10_9 h0 h_1008 x1 x2 x3 x4 v1019 v1020 v1021 _ _ S1008 G1008 I1008
theorem wk_10 {n : Nat} {X : aX} {h : aH} {x1 : Int32} {x2 : Int32} {x3 : Int32} {x4 : Int32} {a1 : Int} {a2 : Int} {a3 : Int} {a4 : Int} (S : wS h) (z1 : x1.toInt = a1) (z2 : x2.toInt = a2) (z3 : x3.toInt = a3) (z4 : x4.toInt = a4) (I : IV h) : Pt n X zM10 0 [some (.ref 41), some (.int x1), some (.int x2), some (.int x3), some (.int x4), none, none, none, none, none, none] [] h (qJ (fun _ h' => wS h' ∧ hk h h' ∧ IV h')) := (wl_10 n).1 h h x1 x2 x3 x4 S (hk_r h) I
theorem wl_123 {X : aX} : ∀ n : Nat, (∀ (h0 h : aH) (x1 : Int32) (q2 : Nat), wS h → hk h0 h → IV h → Pt n X zM123 0 [some (.ref 33), some (.int x1), some (.ref q2)] [] h (qN (fun h' => wS h' ∧ hk h0 h' ∧ IV h'))) := by
  intro n
  induction n with
  | zero => refine ?_ <;> (intros; exact pt_z)
  | succ n ih =>
    have ih123_0 := ih
    refine ?_
    · intro h0 h x1 q2 S G I
      obtain ⟨a1, z1⟩ : ∃ a : Int, x1.toInt = a := ⟨_, rfl⟩
      refine pt_1 (fun n d => r_aloadn gx123_0 rfl) ?_
      refine pt_d (pt_1 (fun n d => r_iloadn gx123_1 rfl) ?_)
      refine pt_d (pt_sipush gx123_2 (fun v1001 h1001 => ?_))
      refine pt_d (pt_imul gx123_5 z1 h1001 (fun v1002 h1002 => ?_))
      refine pt_d (pt_putIh (B := 9) gx123_6 S h1002 (fun h_1003 S1003 e1003 K1003 => ?_))
      have G1003 := hk_t G K1003
      have I1003 := IV_uf I K1003 e1003 (by decide)
      refine pt_d (pt_1 (fun n d => r_aloadn gx123_9 rfl) ?_)
      refine pt_d (pt_1 (fun n d => r_aloadn gx123_10 rfl) ?_)
      refine pt_d (pt_getR gx123_11 S1003 tr_33_3 ?_)
      refine pt_d (pt_1 (fun n d => r_iloadn gx123_14 rfl) ?_)
      refine pt_d (pt_iald (N' := 16) gx123_15 S1003 tl_36 z1 (fun v1005 p1005 q1005 h1005 => ?_))
      have h1005 : v1005.toInt = vw h 36 a1 := by rw [h1005, e1003, up_c (by decide)]
      refine pt_d (pt_putIh (B := 10) gx123_16 S1003 h1005 (fun h_1006 S1006 e1006 K1006 => ?_))
      have G1006 := hk_t G1003 K1006
      have I1006 := IV_uf I1003 K1006 e1006 (by decide)
      refine pt_d (pt_1 (fun n d => r_aloadn gx123_19 rfl) ?_)
      refine pt_d (pt_iconst gx123_20 (fun v1007 h1007 => ?_))
      refine pt_d (pt_putIh (B := 11) gx123_21 S1006 h1007 (fun h_1008 S1008 e1008 K1008 => ?_))
      have G1008 := hk_t G1006 K1008
      have I1008 := IV_uf I1006 K1008 e1008 (by decide)
      refine pt_d (pt_1 (fun n d => r_aloadn gx123_24 rfl) ?_)
      refine pt_d (pt_iconst gx123_25 (fun v1009 h1009 => ?_))
      refine pt_d (pt_putIh (B := 12) gx123_26 S1008 h1009 (fun h_1010 S1010 e1010 K1010 => ?_))
      have G1010 := hk_t G1008 K1010
      have I1010 := IV_uf I1008 K1010 e1010 (by decide)
      refine pt_d (pt_1 (fun n d => r_aloadn gx123_29 rfl) ?_)
      refine pt_d (pt_1 (fun n d => r_aloadn gx123_30 rfl) ?_)
      refine pt_d (pt_putRh (B := 13) gx123_31 S1010 (fun h_1011 S1011 e1011 K1011 => ?_))
      have G1011 := hk_t G1010 K1011
      have I1011 := IV_uf I1010 K1011 e1011 (by decide)
      refine pt_d (pt_1 (fun n d => r_aloadn gx123_34 rfl) ?_)
      refine pt_d (pt_iconst gx123_35 (fun v1012 h1012 => ?_))
      refine pt_d (pt_putIh (B := 14) gx123_36 S1011 h1012 (fun h_1013 S1013 e1013 K1013 => ?_))
      have G1013 := hk_t G1011 K1013
      have I1013 := IV_uf I1011 K1013 e1013 (by decide)
      exact pt_d (pt_vret gx123_39 ⟨rfl, S1013, G1013, I1013⟩)
theorem wk_123 {n : Nat} {X : aX} {h : aH} {x1 : Int32} {q2 : Nat} {a1 : Int} (S : wS h) (z1 : x1.toInt = a1) (I : IV h) : Pt n X zM123 0 [some (.ref 33), some (.int x1), some (.ref q2)] [] h (qN (fun h' => wS h' ∧ hk h h' ∧ IV h')) := (wl_123 n) h h x1 q2 S (hk_r h) I
theorem wl_125 {X : aX} : ∀ n : Nat, (∀ (h0 h : aH) (x1 : Int32), wS h → hk h0 h → IV h → Pt n X zM125 0 [some (.ref 33), some (.int x1), none] [] h (qI (fun _ h' => wS h' ∧ hk h0 h' ∧ IV h'))) := by
  intro n
  induction n with
  | zero => refine ?_ <;> (intros; exact pt_z)
  | succ n ih =>
    have ih125_0 := ih
    refine ?_
    · intro h0 h x1 S G I
      obtain ⟨a1, z1⟩ : ∃ a : Int, x1.toInt = a := ⟨_, rfl⟩
      refine pt_1 (fun n d => r_aloadn gx125_0 rfl) ?_
      refine pt_d (pt_virt (as := []) (r := []) gx125_1 rfl (show zmt[124]? = some zM124 from rfl) rfl rfl rfl rfl (c_124 S) (kqP (fun v1001 h1001 => ?_)))
      show Pt _ _ _ 4 _ [.int v1001] _ _
      refine pt_d (pt_1 (fun n d => r_iloadn gx125_4 rfl) ?_)
      refine pt_d (pt_icmp_ne gx125_5 h1001 z1 (fun e1002 => ?_) (fun e1002 => ?_))
      · skip
        refine pt_d (pt_iconst gx125_12 (fun v1003 h1003 => ?_))
        refine pt_d (pt_1 (fun n d => r_istoren (L' := [some (.ref 33), some (.int x1), some (.int v1003)]) gx125_13 rfl rfl) ?_)
        refine pt_d (pt_1 (fun n d => r_aloadn gx125_14 rfl) ?_)
        refine pt_d (pt_1 (fun n d => r_dup gx125_15 rfl) ?_)
        refine pt_d (pt_getI (B := 11) gx125_16 S (fun v1004 h1004 => ?_))
        refine pt_d (pt_1 (fun n d => r_iloadn gx125_19 rfl) ?_)
        refine pt_d (pt_if_eq gx125_20 h1003 (fun e1005 => ?_) (fun e1005 => absurd e1005 (by decide)))
        refine pt_d (pt_iconst gx125_27 (fun v1006 h1006 => ?_))
        refine pt_d (pt_iadd gx125_28 h1004 h1006 (fun v1007 h1007 => ?_))
        refine pt_d (pt_putIh (B := 11) gx125_29 S h1007 (fun h_1008 S1008 e1008 K1008 => ?_))
        have G1008 := hk_t G K1008
        have I1008 := IV_uf I K1008 e1008 (by decide)
        refine pt_d (pt_1 (fun n d => r_iloadn gx125_32 rfl) ?_)
        exact pt_d (pt_iret gx125_33 ⟨_, rfl, S1008, G1008, I1008⟩)
      · skip
        refine pt_d (pt_iconst gx125_8 (fun v1009 h1009 => ?_))
        refine pt_d (pt_1 (fun n d => r_goto gx125_9) ?_)
        refine pt_d (pt_1 (fun n d => r_istoren (L' := [some (.ref 33), some (.int x1), some (.int v1009)]) gx125_13 rfl rfl) ?_)
        refine pt_d (pt_1 (fun n d => r_aloadn gx125_14 rfl) ?_)
        refine pt_d (pt_1 (fun n d => r_dup gx125_15 rfl) ?_)
        refine pt_d (pt_getI (B := 11) gx125_16 S (fun v1010 h1010 => ?_))
        refine pt_d (pt_1 (fun n d => r_iloadn gx125_19 rfl) ?_)
        refine pt_d (pt_if_eq gx125_20 h1009 (fun e1011 => absurd e1011 (by decide)) (fun e1011 => ?_))
        refine pt_d (pt_iconst gx125_23 (fun v1012 h1012 => ?_))
        refine pt_d (pt_1 (fun n d => r_goto gx125_24) ?_)
        refine pt_d (pt_iadd gx125_28 h1010 h1012 (fun v1013 h1013 => ?_))
        refine pt_d (pt_putIh (B := 11) gx125_29 S h1013 (fun h_1014 S1014 e1014 K1014 => ?_))
        have G1014 := hk_t G K1014
        have I1014 := IV_uf I K1014 e1014 (by decide)
        refine pt_d (pt_1 (fun n d => r_iloadn gx125_32 rfl) ?_)
        exact pt_d (pt_iret gx125_33 ⟨_, rfl, S1014, G1014, I1014⟩)
theorem wk_125 {n : Nat} {X : aX} {h : aH} {x1 : Int32} {a1 : Int} (S : wS h) (z1 : x1.toInt = a1) (I : IV h) : Pt n X zM125 0 [some (.ref 33), some (.int x1), none] [] h (qI (fun _ h' => wS h' ∧ hk h h' ∧ IV h')) := (wl_125 n) h h x1 S (hk_r h) I
theorem wl_126 {X : aX} : ∀ n : Nat, (∀ (h0 h : aH), wS h → hk h0 h → IV h → Pt n X zM126 0 [some (.ref 33)] [] h (qN (fun h' => wS h' ∧ hk h0 h' ∧ IV h'))) := by
  intro n
  induction n with
  | zero => refine ?_ <;> (intros; exact pt_z)
  | succ n ih =>
    have ih126_0 := ih
    refine ?_
    · intro h0 h  S G I
      refine pt_1 (fun n d => r_aloadn gx126_0 rfl) ?_
      refine pt_d (pt_getI (B := 12) gx126_1 S (fun v1001 h1001 => ?_))
      refine pt_d (pt_iconst gx126_4 (fun v1002 h1002 => ?_))
      refine pt_d (pt_icmp_ne gx126_5 h1001 h1002 (fun e1003 => ?_) (fun e1003 => ?_))
      · skip
        exact pt_d (pt_vret gx126_16 ⟨rfl, S, G, I⟩)
      · skip
        refine pt_d (pt_1 (fun n d => r_aloadn gx126_8 rfl) ?_)
        refine pt_d (pt_1 (fun n d => r_aloadn gx126_9 rfl) ?_)
        refine pt_d (pt_getI (B := 11) gx126_10 S (fun v1004 h1004 => ?_))
        refine pt_d (pt_putIh (B := 12) gx126_13 S h1004 (fun h_1005 S1005 e1005 K1005 => ?_))
        have G1005 := hk_t G K1005
        have I1005 := IV_uf I K1005 e1005 (by decide)
        exact pt_d (pt_vret gx126_16 ⟨rfl, S1005, G1005, I1005⟩)
theorem wk_126 {n : Nat} {X : aX} {h : aH} (S : wS h) (I : IV h) : Pt n X zM126 0 [some (.ref 33)] [] h (qN (fun h' => wS h' ∧ hk h h' ∧ IV h')) := (wl_126 n) h h  S (hk_r h) I
theorem wl_135 {X : aX} : ∀ n : Nat, (∀ (h0 h : aH), wS h → hk h0 h → IV h → Pt n X zM135 0 [some (.ref 33), none, none] [] h (qI (fun _ h' => wS h' ∧ hk h0 h' ∧ IV h'))) ∧
    (∀ (h0 h : aH) (x1 : Int32) (x2 : Int32), wS h → hk h0 h → IV h → Pt n X zM135 4 [some (.ref 33), some (.int x1), some (.int x2)] [] h (qI (fun _ h' => wS h' ∧ hk h0 h' ∧ IV h'))) := by
  intro n
  induction n with
  | zero => refine ⟨?_, ?_⟩ <;> (intros; exact pt_z)
  | succ n ih =>
    obtain ⟨ih135_0, ih135_4⟩ := ih
    refine ⟨?_, ?_⟩
    · intro h0 h  S G I
      refine pt_iconst gx135_0 (fun v1001 h1001 => ?_)
      refine pt_d (pt_1 (fun n d => r_istoren (L' := [some (.ref 33), some (.int v1001), none]) gx135_1 rfl rfl) ?_)
      refine pt_d (pt_iconst gx135_2 (fun v1002 h1002 => ?_))
      refine pt_d (pt_1 (fun n d => r_istoren (L' := [some (.ref 33), some (.int v1001), some (.int v1002)]) gx135_3 rfl rfl) ?_)
      exact ih135_4 h0 h v1001 v1002 S G I
    · intro h0 h x1 x2 S G I
      obtain ⟨a1, z1⟩ : ∃ a : Int, x1.toInt = a := ⟨_, rfl⟩
      obtain ⟨a2, z2⟩ : ∃ a : Int, x2.toInt = a := ⟨_, rfl⟩
      refine pt_1 (fun n d => r_iloadn gx135_4 rfl) ?_
      refine pt_d (pt_bipush gx135_5 (fun v1001 h1001 => ?_))
      refine pt_d (pt_icmp_ge gx135_7 z2 h1001 (fun e1002 => ?_) (fun e1002 => ?_))
      · skip
        refine pt_d (pt_1 (fun n d => r_iloadn gx135_49 rfl) ?_)
        exact pt_d (pt_iret gx135_50 ⟨_, rfl, S, G, I⟩)
      · skip
        refine pt_d (pt_1 (fun n d => r_aloadn gx135_10 rfl) ?_)
        refine pt_d (pt_virt (as := []) (r := []) gx135_11 rfl (show zmt[124]? = some zM124 from rfl) rfl rfl rfl rfl (c_124 S) (kqP (fun v1003 h1003 => ?_)))
        show Pt _ _ _ 14 _ [.int v1003] _ _
        refine pt_d (pt_stat (as := [.int v1003]) (r := []) gx135_14 rfl (show zmt[134]? = some zM134 from rfl) rfl rfl rfl rfl (c_134 S h1003) (kqP (fun v1004 h1004 => ?_)))
        show Pt _ _ _ 17 _ [.int v1004] _ _
        refine pt_d (pt_ifB_eq gx135_17 h1004 (fun e1005 => ?_) (fun e1005 => ?_))
        · skip
          refine pt_d (pt_1 (fun n d => r_iloadn gx135_49 rfl) ?_)
          exact pt_d (pt_iret gx135_50 ⟨_, rfl, S, G, I⟩)
        · skip
          refine pt_d (pt_1 (fun n d => r_iloadn gx135_20 rfl) ?_)
          refine pt_d (pt_bipush gx135_21 (fun v1006 h1006 => ?_))
          refine pt_d (pt_imul gx135_23 z1 h1006 (fun v1007 h1007 => ?_))
          refine pt_d (pt_1 (fun n d => r_aloadn gx135_24 rfl) ?_)
          refine pt_d (pt_virt (as := []) (r := [.int v1007]) gx135_25 rfl (show zmt[124]? = some zM124 from rfl) rfl rfl rfl rfl (c_124 S) (kqP (fun v1008 h1008 => ?_)))
          show Pt _ _ _ 28 _ [.int v1008, .int v1007] _ _
          refine pt_d (pt_iadd gx135_28 h1007 h1008 (fun v1009 h1009 => ?_))
          refine pt_d (pt_bipush gx135_29 (fun v1010 h1010 => ?_))
          refine pt_d (pt_isub gx135_31 h1009 h1010 (fun v1011 h1011 => ?_))
          refine pt_d (pt_1 (fun n d => r_istoren (L' := [some (.ref 33), some (.int v1011), some (.int x2)]) gx135_32 rfl rfl) ?_)
          refine pt_d (pt_1 (fun n d => r_aloadn gx135_33 rfl) ?_)
          refine pt_d (pt_1 (fun n d => r_dup gx135_34 rfl) ?_)
          refine pt_d (pt_getI (B := 11) gx135_35 S (fun v1012 h1012 => ?_))
          refine pt_d (pt_iconst gx135_38 (fun v1013 h1013 => ?_))
          refine pt_d (pt_iadd gx135_39 h1012 h1013 (fun v1014 h1014 => ?_))
          refine pt_d (pt_putIh (B := 11) gx135_40 S h1014 (fun h_1015 S1015 e1015 K1015 => ?_))
          have G1015 := hk_t G K1015
          have I1015 := IV_uf I K1015 e1015 (by decide)
          refine pt_d (pt_iinc (c := 1) gx135_43 rfl z2 (fun v1016 h1016 => ?_))
          show Pt _ _ _ _ [some (.ref 33), some (.int v1011), some (.int v1016)] [] _ _
          refine pt_d (pt_1 (fun n d => r_goto gx135_46) ?_)
          exact ih135_4 h0 h_1015 v1011 v1016 S1015 G1015 I1015
theorem wk_135 {n : Nat} {X : aX} {h : aH} (S : wS h) (I : IV h) : Pt n X zM135 0 [some (.ref 33), none, none] [] h (qI (fun _ h' => wS h' ∧ hk h h' ∧ IV h')) := (wl_135 n).1 h h  S (hk_r h) I
theorem wl_128 {X : aX} : ∀ n : Nat, (∀ (h0 h : aH) (x1 : Int32), wS h → hk h0 h → IV h → Pt n X zM128 0 [some (.ref 33), some (.int x1), none, none, none] [] h (qI (fun _ h' => wS h' ∧ hk h0 h' ∧ IV h'))) ∧
    (∀ (h0 h : aH) (x1 : Int32) (x2 : Int32) (x3 : Int32) (u4 : Option Value), wS h → hk h0 h → IV h → Pt n X zM128 8 [some (.ref 33), some (.int x1), some (.int x2), some (.int x3), u4] [] h (qI (fun _ h' => wS h' ∧ hk h0 h' ∧ IV h'))) ∧
    (∀ (h0 h : aH) (x1 : Int32), wS h → hk h0 h → IV h → Pt n X zM129 0 [some (.ref 33), some (.int x1), none, none, none] [] h (qI (fun _ h' => wS h' ∧ hk h0 h' ∧ IV h'))) ∧
    (∀ (h0 h : aH) (x1 : Int32) (x2 : Int32) (x3 : Int32) (u4 : Option Value), wS h → hk h0 h → IV h → Pt n X zM129 8 [some (.ref 33), some (.int x1), some (.int x2), some (.int x3), u4] [] h (qI (fun _ h' => wS h' ∧ hk h0 h' ∧ IV h'))) ∧
    (∀ (h0 h : aH) (x1 : Int32), wS h → hk h0 h → IV h → Pt n X zM130 0 [some (.ref 33), some (.int x1), none] [] h (qI (fun _ h' => wS h' ∧ hk h0 h' ∧ IV h'))) ∧
    (∀ (h0 h : aH) (x1 : Int32), wS h → hk h0 h → IV h → Pt n X zM131 0 [some (.ref 33), some (.int x1), none, none] [] h (qI (fun _ h' => wS h' ∧ hk h0 h' ∧ IV h'))) ∧
    (∀ (h0 h : aH) (x1 : Int32) (x2 : Int32) (x3 : Int32), wS h → hk h0 h → IV h → Pt n X zM131 8 [some (.ref 33), some (.int x1), some (.int x2), some (.int x3)] [] h (qI (fun _ h' => wS h' ∧ hk h0 h' ∧ IV h'))) ∧
    (∀ (h0 h : aH) (x1 : Int32), wS h → hk h0 h → IV h → Pt n X zM132 0 [some (.ref 33), some (.int x1), none, none, none] [] h (qI (fun _ h' => wS h' ∧ hk h0 h' ∧ IV h'))) ∧
    (∀ (h0 h : aH) (x1 : Int32) (x2 : Int32) (x3 : Int32) (u4 : Option Value), wS h → hk h0 h → IV h → Pt n X zM132 8 [some (.ref 33), some (.int x1), some (.int x2), some (.int x3), u4] [] h (qI (fun _ h' => wS h' ∧ hk h0 h' ∧ IV h'))) ∧
    (∀ (h0 h : aH) (x1 : Int32), wS h → hk h0 h → IV h → Pt n X zM133 0 [some (.ref 33), some (.int x1), none, none, none] [] h (qI (fun _ h' => wS h' ∧ hk h0 h' ∧ IV h'))) ∧
    (∀ (h0 h : aH) (x1 : Int32) (x2 : Int32) (xs0 : Int32), wS h → hk h0 h → IV h → Pt n X zM133 33 [some (.ref 33), some (.int x1), some (.int x2), none, none] [.int xs0] h (qI (fun _ h' => wS h' ∧ hk h0 h' ∧ IV h'))) ∧
    (∀ (h0 h : aH) (x1 : Int32) (x2 : Int32) (x3 : Int32) (xs0 : Int32), wS h → hk h0 h → IV h → Pt n X zM133 92 [some (.ref 33), some (.int x1), some (.int x2), some (.int x3), none] [.int xs0] h (qI (fun _ h' => wS h' ∧ hk h0 h' ∧ IV h'))) ∧
    (∀ (h0 h : aH) (x1 : Int32) (x2 : Int32) (x3 : Int32) (x4 : Int32), wS h → hk h0 h → IV h → Pt n X zM133 151 [some (.ref 33), some (.int x1), some (.int x2), some (.int x3), some (.int x4)] [] h (qI (fun _ h' => wS h' ∧ hk h0 h' ∧ IV h'))) := by
  intro n
  induction n with
  | zero => refine ⟨?_, ?_, ?_, ?_, ?_, ?_, ?_, ?_, ?_, ?_, ?_, ?_, ?_⟩ <;> (intros; exact pt_z)
  | succ n ih =>
    obtain ⟨ih128_0, ih128_8, ih129_0, ih129_8, ih130_0, ih131_0, ih131_8, ih132_0, ih132_8, ih133_0, ih133_33, ih133_92, ih133_151⟩ := ih
    have ihr128 : ∀ {h : aH} {x1 : Int32} {a1 : Int} , wS h → x1.toInt = a1 → IV h → Pt n X zM128 0 [some (.ref 33), some (.int x1), none, none, none] [] h (qI (fun _ h' => wS h' ∧ hk h h' ∧ IV h')) := fun {h} {x1} {_} S _ I => ih128_0 h h x1 S (hk_r h) I
    have ihr129 : ∀ {h : aH} {x1 : Int32} {a1 : Int} , wS h → x1.toInt = a1 → IV h → Pt n X zM129 0 [some (.ref 33), some (.int x1), none, none, none] [] h (qI (fun _ h' => wS h' ∧ hk h h' ∧ IV h')) := fun {h} {x1} {_} S _ I => ih129_0 h h x1 S (hk_r h) I
    have ihr130 : ∀ {h : aH} {x1 : Int32} {a1 : Int} , wS h → x1.toInt = a1 → IV h → Pt n X zM130 0 [some (.ref 33), some (.int x1), none] [] h (qI (fun _ h' => wS h' ∧ hk h h' ∧ IV h')) := fun {h} {x1} {_} S _ I => ih130_0 h h x1 S (hk_r h) I
    have ihr131 : ∀ {h : aH} {x1 : Int32} {a1 : Int} , wS h → x1.toInt = a1 → IV h → Pt n X zM131 0 [some (.ref 33), some (.int x1), none, none] [] h (qI (fun _ h' => wS h' ∧ hk h h' ∧ IV h')) := fun {h} {x1} {_} S _ I => ih131_0 h h x1 S (hk_r h) I
    have ihr132 : ∀ {h : aH} {x1 : Int32} {a1 : Int} , wS h → x1.toInt = a1 → IV h → Pt n X zM132 0 [some (.ref 33), some (.int x1), none, none, none] [] h (qI (fun _ h' => wS h' ∧ hk h h' ∧ IV h')) := fun {h} {x1} {_} S _ I => ih132_0 h h x1 S (hk_r h) I
    have ihr133 : ∀ {h : aH} {x1 : Int32} {a1 : Int} , wS h → x1.toInt = a1 → IV h → Pt n X zM133 0 [some (.ref 33), some (.int x1), none, none, none] [] h (qI (fun _ h' => wS h' ∧ hk h h' ∧ IV h')) := fun {h} {x1} {_} S _ I => ih133_0 h h x1 S (hk_r h) I
    refine ⟨?_, ?_, ?_, ?_, ?_, ?_, ?_, ?_, ?_, ?_, ?_, ?_, ?_⟩
    · intro h0 h x1 S G I
      obtain ⟨a1, z1⟩ : ∃ a : Int, x1.toInt = a := ⟨_, rfl⟩
      refine pt_1 (fun n d => r_aloadn gx128_0 rfl) ?_
      refine pt_d (pt_1 (fun n d => r_iloadn gx128_1 rfl) ?_)
      refine pt_d (pt_virt (as := [.int x1]) (r := []) gx128_2 rfl (show zmt[129]? = some zM129 from rfl) rfl rfl rfl rfl (ihr129 S z1 I) (kqI (fun v1001 y1001 h_1001 h1001 P1001 => ?_)))
      have S1001 := P1001.1
      have G1001 := hk_t G P1001.2.1
      have I1001 := P1001.2.2
      show Pt _ _ _ 5 _ [.int v1001] _ _
      refine pt_d (pt_1 (fun n d => r_istoren (L' := [some (.ref 33), some (.int x1), some (.int v1001), none, none]) gx128_5 rfl rfl) ?_)
      refine pt_d (pt_iconst gx128_6 (fun v1002 h1002 => ?_))
      refine pt_d (pt_1 (fun n d => r_istoren (L' := [some (.ref 33), some (.int x1), some (.int v1001), some (.int v1002), none]) gx128_7 rfl rfl) ?_)
      exact ih128_8 h0 h_1001 x1 v1001 v1002 _ S1001 G1001 I1001
    · intro h0 h x1 x2 x3 u4 S G I
      obtain ⟨a1, z1⟩ : ∃ a : Int, x1.toInt = a := ⟨_, rfl⟩
      obtain ⟨a2, z2⟩ : ∃ a : Int, x2.toInt = a := ⟨_, rfl⟩
      obtain ⟨a3, z3⟩ : ∃ a : Int, x3.toInt = a := ⟨_, rfl⟩
      refine pt_1 (fun n d => r_iloadn gx128_8 rfl) ?_
      refine pt_d (pt_sipush gx128_9 (fun v1001 h1001 => ?_))
      refine pt_d (pt_icmp_ge gx128_12 z3 h1001 (fun e1002 => ?_) (fun e1002 => ?_))
      · skip
        refine pt_d (pt_1 (fun n d => r_iloadn gx128_55 rfl) ?_)
        exact pt_d (pt_iret gx128_56 ⟨_, rfl, S, G, I⟩)
      · skip
        refine pt_d (pt_1 (fun n d => r_aloadn gx128_15 rfl) ?_)
        refine pt_d (pt_bipush gx128_16 (fun v1003 h1003 => ?_))
        refine pt_d (pt_virt (as := [.int v1003]) (r := []) gx128_18 rfl (show zmt[125]? = some zM125 from rfl) rfl rfl rfl rfl (wk_125 S h1003 I) (kqI (fun v1004 y1004 h_1004 h1004 P1004 => ?_)))
        have S1004 := P1004.1
        have G1004 := hk_t G P1004.2.1
        have I1004 := P1004.2.2
        show Pt _ _ _ 21 _ [.int v1004] _ _
        refine pt_d (pt_if_eq gx128_21 h1004 (fun e1005 => ?_) (fun e1005 => ?_))
        · skip
          refine pt_d (pt_1 (fun n d => r_iloadn gx128_55 rfl) ?_)
          exact pt_d (pt_iret gx128_56 ⟨_, rfl, S1004, G1004, I1004⟩)
        · skip
          refine pt_d (pt_1 (fun n d => r_aloadn gx128_24 rfl) ?_)
          refine pt_d (pt_1 (fun n d => r_iloadn gx128_25 rfl) ?_)
          refine pt_d (pt_virt (as := [.int x1]) (r := []) gx128_26 rfl (show zmt[129]? = some zM129 from rfl) rfl rfl rfl rfl (ihr129 S1004 z1 I1004) (kqI (fun v1006 y1006 h_1006 h1006 P1006 => ?_)))
          have S1006 := P1006.1
          have G1006 := hk_t G1004 P1006.2.1
          have I1006 := P1006.2.2
          show Pt _ _ _ 29 _ [.int v1006] _ _
          refine pt_d (pt_1 (fun n d => r_istore (L' := [some (.ref 33), some (.int x1), some (.int x2), some (.int x3), some (.int v1006)]) gx128_29 rfl rfl) ?_)
          refine pt_d (pt_1 (fun n d => r_iloadn gx128_31 rfl) ?_)
          refine pt_d (pt_if_ne gx128_32 z2 (fun e1007 => ?_) (fun e1007 => ?_))
          · skip
            refine pt_d (pt_iconst gx128_40 (fun v1008 h1008 => ?_))
            refine pt_d (pt_1 (fun n d => r_goto gx128_41) ?_)
            refine pt_d (pt_stat (as := [.int v1008]) (r := []) gx128_45 rfl (show zmt[127]? = some zM127 from rfl) rfl rfl rfl rfl (c_127 S1006 h1008) (kqP (fun v1009 h1009 => ?_)))
            show Pt _ _ _ 48 _ [.int v1009] _ _
            refine pt_d (pt_1 (fun n d => r_istoren (L' := [some (.ref 33), some (.int x1), some (.int v1009), some (.int x3), some (.int v1006)]) gx128_48 rfl rfl) ?_)
            refine pt_d (pt_iinc (c := 1) gx128_49 rfl z3 (fun v1010 h1010 => ?_))
            show Pt _ _ _ _ [some (.ref 33), some (.int x1), some (.int v1009), some (.int v1010), some (.int v1006)] [] _ _
            refine pt_d (pt_1 (fun n d => r_goto gx128_52) ?_)
            exact ih128_8 h0 h_1006 x1 v1009 v1010 _ S1006 G1006 I1006
          · skip
            refine pt_d (pt_1 (fun n d => r_iload gx128_35 rfl) ?_)
            refine pt_d (pt_if_eq gx128_37 h1006 (fun e1011 => ?_) (fun e1011 => ?_))
            · skip
              refine pt_d (pt_iconst gx128_44 (fun v1012 h1012 => ?_))
              refine pt_d (pt_stat (as := [.int v1012]) (r := []) gx128_45 rfl (show zmt[127]? = some zM127 from rfl) rfl rfl rfl rfl (c_127 S1006 h1012) (kqP (fun v1013 h1013 => ?_)))
              show Pt _ _ _ 48 _ [.int v1013] _ _
              refine pt_d (pt_1 (fun n d => r_istoren (L' := [some (.ref 33), some (.int x1), some (.int v1013), some (.int x3), some (.int v1006)]) gx128_48 rfl rfl) ?_)
              refine pt_d (pt_iinc (c := 1) gx128_49 rfl z3 (fun v1014 h1014 => ?_))
              show Pt _ _ _ _ [some (.ref 33), some (.int x1), some (.int v1013), some (.int v1014), some (.int v1006)] [] _ _
              refine pt_d (pt_1 (fun n d => r_goto gx128_52) ?_)
              exact ih128_8 h0 h_1006 x1 v1013 v1014 _ S1006 G1006 I1006
            · skip
              refine pt_d (pt_iconst gx128_40 (fun v1015 h1015 => ?_))
              refine pt_d (pt_1 (fun n d => r_goto gx128_41) ?_)
              refine pt_d (pt_stat (as := [.int v1015]) (r := []) gx128_45 rfl (show zmt[127]? = some zM127 from rfl) rfl rfl rfl rfl (c_127 S1006 h1015) (kqP (fun v1016 h1016 => ?_)))
              show Pt _ _ _ 48 _ [.int v1016] _ _
              refine pt_d (pt_1 (fun n d => r_istoren (L' := [some (.ref 33), some (.int x1), some (.int v1016), some (.int x3), some (.int v1006)]) gx128_48 rfl rfl) ?_)
              refine pt_d (pt_iinc (c := 1) gx128_49 rfl z3 (fun v1017 h1017 => ?_))
              show Pt _ _ _ _ [some (.ref 33), some (.int x1), some (.int v1016), some (.int v1017), some (.int v1006)] [] _ _
              refine pt_d (pt_1 (fun n d => r_goto gx128_52) ?_)
              exact ih128_8 h0 h_1006 x1 v1016 v1017 _ S1006 G1006 I1006
    · intro h0 h x1 S G I
      obtain ⟨a1, z1⟩ : ∃ a : Int, x1.toInt = a := ⟨_, rfl⟩
      refine pt_1 (fun n d => r_aloadn gx129_0 rfl) ?_
      refine pt_d (pt_1 (fun n d => r_iloadn gx129_1 rfl) ?_)
      refine pt_d (pt_virt (as := [.int x1]) (r := []) gx129_2 rfl (show zmt[130]? = some zM130 from rfl) rfl rfl rfl rfl (ihr130 S z1 I) (kqI (fun v1001 y1001 h_1001 h1001 P1001 => ?_)))
      have S1001 := P1001.1
      have G1001 := hk_t G P1001.2.1
      have I1001 := P1001.2.2
      show Pt _ _ _ 5 _ [.int v1001] _ _
      refine pt_d (pt_1 (fun n d => r_istoren (L' := [some (.ref 33), some (.int x1), some (.int v1001), none, none]) gx129_5 rfl rfl) ?_)
      refine pt_d (pt_iconst gx129_6 (fun v1002 h1002 => ?_))
      refine pt_d (pt_1 (fun n d => r_istoren (L' := [some (.ref 33), some (.int x1), some (.int v1001), some (.int v1002), none]) gx129_7 rfl rfl) ?_)
      exact ih129_8 h0 h_1001 x1 v1001 v1002 _ S1001 G1001 I1001
    · intro h0 h x1 x2 x3 u4 S G I
      obtain ⟨a1, z1⟩ : ∃ a : Int, x1.toInt = a := ⟨_, rfl⟩
      obtain ⟨a2, z2⟩ : ∃ a : Int, x2.toInt = a := ⟨_, rfl⟩
      obtain ⟨a3, z3⟩ : ∃ a : Int, x3.toInt = a := ⟨_, rfl⟩
      refine pt_1 (fun n d => r_iloadn gx129_8 rfl) ?_
      refine pt_d (pt_sipush gx129_9 (fun v1001 h1001 => ?_))
      refine pt_d (pt_icmp_ge gx129_12 z3 h1001 (fun e1002 => ?_) (fun e1002 => ?_))
      · skip
        refine pt_d (pt_1 (fun n d => r_iloadn gx129_55 rfl) ?_)
        exact pt_d (pt_iret gx129_56 ⟨_, rfl, S, G, I⟩)
      · skip
        refine pt_d (pt_1 (fun n d => r_aloadn gx129_15 rfl) ?_)
        refine pt_d (pt_bipush gx129_16 (fun v1003 h1003 => ?_))
        refine pt_d (pt_virt (as := [.int v1003]) (r := []) gx129_18 rfl (show zmt[125]? = some zM125 from rfl) rfl rfl rfl rfl (wk_125 S h1003 I) (kqI (fun v1004 y1004 h_1004 h1004 P1004 => ?_)))
        have S1004 := P1004.1
        have G1004 := hk_t G P1004.2.1
        have I1004 := P1004.2.2
        show Pt _ _ _ 21 _ [.int v1004] _ _
        refine pt_d (pt_if_eq gx129_21 h1004 (fun e1005 => ?_) (fun e1005 => ?_))
        · skip
          refine pt_d (pt_1 (fun n d => r_iloadn gx129_55 rfl) ?_)
          exact pt_d (pt_iret gx129_56 ⟨_, rfl, S1004, G1004, I1004⟩)
        · skip
          refine pt_d (pt_1 (fun n d => r_aloadn gx129_24 rfl) ?_)
          refine pt_d (pt_1 (fun n d => r_iloadn gx129_25 rfl) ?_)
          refine pt_d (pt_virt (as := [.int x1]) (r := []) gx129_26 rfl (show zmt[130]? = some zM130 from rfl) rfl rfl rfl rfl (ihr130 S1004 z1 I1004) (kqI (fun v1006 y1006 h_1006 h1006 P1006 => ?_)))
          have S1006 := P1006.1
          have G1006 := hk_t G1004 P1006.2.1
          have I1006 := P1006.2.2
          show Pt _ _ _ 29 _ [.int v1006] _ _
          refine pt_d (pt_1 (fun n d => r_istore (L' := [some (.ref 33), some (.int x1), some (.int x2), some (.int x3), some (.int v1006)]) gx129_29 rfl rfl) ?_)
          refine pt_d (pt_1 (fun n d => r_iloadn gx129_31 rfl) ?_)
          refine pt_d (pt_if_eq gx129_32 z2 (fun e1007 => ?_) (fun e1007 => ?_))
          · skip
            refine pt_d (pt_iconst gx129_44 (fun v1008 h1008 => ?_))
            refine pt_d (pt_stat (as := [.int v1008]) (r := []) gx129_45 rfl (show zmt[127]? = some zM127 from rfl) rfl rfl rfl rfl (c_127 S1006 h1008) (kqP (fun v1009 h1009 => ?_)))
            show Pt _ _ _ 48 _ [.int v1009] _ _
            refine pt_d (pt_1 (fun n d => r_istoren (L' := [some (.ref 33), some (.int x1), some (.int v1009), some (.int x3), some (.int v1006)]) gx129_48 rfl rfl) ?_)
            refine pt_d (pt_iinc (c := 1) gx129_49 rfl z3 (fun v1010 h1010 => ?_))
            show Pt _ _ _ _ [some (.ref 33), some (.int x1), some (.int v1009), some (.int v1010), some (.int v1006)] [] _ _
            refine pt_d (pt_1 (fun n d => r_goto gx129_52) ?_)
            exact ih129_8 h0 h_1006 x1 v1009 v1010 _ S1006 G1006 I1006
          · skip
            refine pt_d (pt_1 (fun n d => r_iload gx129_35 rfl) ?_)
            refine pt_d (pt_if_eq gx129_37 h1006 (fun e1011 => ?_) (fun e1011 => ?_))
            · skip
              refine pt_d (pt_iconst gx129_44 (fun v1012 h1012 => ?_))
              refine pt_d (pt_stat (as := [.int v1012]) (r := []) gx129_45 rfl (show zmt[127]? = some zM127 from rfl) rfl rfl rfl rfl (c_127 S1006 h1012) (kqP (fun v1013 h1013 => ?_)))
              show Pt _ _ _ 48 _ [.int v1013] _ _
              refine pt_d (pt_1 (fun n d => r_istoren (L' := [some (.ref 33), some (.int x1), some (.int v1013), some (.int x3), some (.int v1006)]) gx129_48 rfl rfl) ?_)
              refine pt_d (pt_iinc (c := 1) gx129_49 rfl z3 (fun v1014 h1014 => ?_))
              show Pt _ _ _ _ [some (.ref 33), some (.int x1), some (.int v1013), some (.int v1014), some (.int v1006)] [] _ _
              refine pt_d (pt_1 (fun n d => r_goto gx129_52) ?_)
              exact ih129_8 h0 h_1006 x1 v1013 v1014 _ S1006 G1006 I1006
            · skip
              refine pt_d (pt_iconst gx129_40 (fun v1015 h1015 => ?_))
              refine pt_d (pt_1 (fun n d => r_goto gx129_41) ?_)
              refine pt_d (pt_stat (as := [.int v1015]) (r := []) gx129_45 rfl (show zmt[127]? = some zM127 from rfl) rfl rfl rfl rfl (c_127 S1006 h1015) (kqP (fun v1016 h1016 => ?_)))
              show Pt _ _ _ 48 _ [.int v1016] _ _
              refine pt_d (pt_1 (fun n d => r_istoren (L' := [some (.ref 33), some (.int x1), some (.int v1016), some (.int x3), some (.int v1006)]) gx129_48 rfl rfl) ?_)
              refine pt_d (pt_iinc (c := 1) gx129_49 rfl z3 (fun v1017 h1017 => ?_))
              show Pt _ _ _ _ [some (.ref 33), some (.int x1), some (.int v1016), some (.int v1017), some (.int v1006)] [] _ _
              refine pt_d (pt_1 (fun n d => r_goto gx129_52) ?_)
              exact ih129_8 h0 h_1006 x1 v1016 v1017 _ S1006 G1006 I1006
    · intro h0 h x1 S G I
      obtain ⟨a1, z1⟩ : ∃ a : Int, x1.toInt = a := ⟨_, rfl⟩
      refine pt_1 (fun n d => r_aloadn gx130_0 rfl) ?_
      refine pt_d (pt_1 (fun n d => r_iloadn gx130_1 rfl) ?_)
      refine pt_d (pt_virt (as := [.int x1]) (r := []) gx130_2 rfl (show zmt[131]? = some zM131 from rfl) rfl rfl rfl rfl (ihr131 S z1 I) (kqI (fun v1001 y1001 h_1001 h1001 P1001 => ?_)))
      have S1001 := P1001.1
      have G1001 := hk_t G P1001.2.1
      have I1001 := P1001.2.2
      show Pt _ _ _ 5 _ [.int v1001] _ _
      refine pt_d (pt_1 (fun n d => r_istoren (L' := [some (.ref 33), some (.int x1), some (.int v1001)]) gx130_5 rfl rfl) ?_)
      refine pt_d (pt_1 (fun n d => r_aloadn gx130_6 rfl) ?_)
      refine pt_d (pt_bipush gx130_7 (fun v1002 h1002 => ?_))
      refine pt_d (pt_virt (as := [.int v1002]) (r := []) gx130_9 rfl (show zmt[125]? = some zM125 from rfl) rfl rfl rfl rfl (wk_125 S1001 h1002 I1001) (kqI (fun v1003 y1003 h_1003 h1003 P1003 => ?_)))
      have S1003 := P1003.1
      have G1003 := hk_t G1001 P1003.2.1
      have I1003 := P1003.2.2
      show Pt _ _ _ 12 _ [.int v1003] _ _
      refine pt_d (pt_if_eq gx130_12 h1003 (fun e1004 => ?_) (fun e1004 => ?_))
      · skip
        refine pt_d (pt_1 (fun n d => r_aloadn gx130_33 rfl) ?_)
        refine pt_d (pt_bipush gx130_34 (fun v1005 h1005 => ?_))
        refine pt_d (pt_virt (as := [.int v1005]) (r := []) gx130_36 rfl (show zmt[125]? = some zM125 from rfl) rfl rfl rfl rfl (wk_125 S1003 h1005 I1003) (kqI (fun v1006 y1006 h_1006 h1006 P1006 => ?_)))
        have S1006 := P1006.1
        have G1006 := hk_t G1003 P1006.2.1
        have I1006 := P1006.2.2
        show Pt _ _ _ 39 _ [.int v1006] _ _
        refine pt_d (pt_if_eq gx130_39 h1006 (fun e1007 => ?_) (fun e1007 => ?_))
        · skip
          refine pt_d (pt_1 (fun n d => r_aloadn gx130_60 rfl) ?_)
          refine pt_d (pt_bipush gx130_61 (fun v1008 h1008 => ?_))
          refine pt_d (pt_virt (as := [.int v1008]) (r := []) gx130_63 rfl (show zmt[125]? = some zM125 from rfl) rfl rfl rfl rfl (wk_125 S1006 h1008 I1006) (kqI (fun v1009 y1009 h_1009 h1009 P1009 => ?_)))
          have S1009 := P1009.1
          have G1009 := hk_t G1006 P1009.2.1
          have I1009 := P1009.2.2
          show Pt _ _ _ 66 _ [.int v1009] _ _
          refine pt_d (pt_if_eq gx130_66 h1009 (fun e1010 => ?_) (fun e1010 => ?_))
          · skip
            refine pt_d (pt_1 (fun n d => r_iloadn gx130_87 rfl) ?_)
            exact pt_d (pt_iret gx130_88 ⟨_, rfl, S1009, G1009, I1009⟩)
          · skip
            refine pt_d (pt_1 (fun n d => r_iloadn gx130_69 rfl) ?_)
            refine pt_d (pt_1 (fun n d => r_aloadn gx130_70 rfl) ?_)
            refine pt_d (pt_1 (fun n d => r_iloadn gx130_71 rfl) ?_)
            refine pt_d (pt_virt (as := [.int x1]) (r := [.int v1001]) gx130_72 rfl (show zmt[131]? = some zM131 from rfl) rfl rfl rfl rfl (ihr131 S1009 z1 I1009) (kqI (fun v1011 y1011 h_1011 h1011 P1011 => ?_)))
            have S1011 := P1011.1
            have G1011 := hk_t G1009 P1011.2.1
            have I1011 := P1011.2.2
            show Pt _ _ _ 75 _ [.int v1011, .int v1001] _ _
            refine pt_d (pt_icmp_le gx130_75 h1001 h1011 (fun e1012 => ?_) (fun e1012 => ?_))
            · skip
              refine pt_d (pt_iconst gx130_82 (fun v1013 h1013 => ?_))
              refine pt_d (pt_stat (as := [.int v1013]) (r := []) gx130_83 rfl (show zmt[127]? = some zM127 from rfl) rfl rfl rfl rfl (c_127 S1011 h1013) (kqP (fun v1014 h1014 => ?_)))
              show Pt _ _ _ 86 _ [.int v1014] _ _
              exact pt_d (pt_iret gx130_86 ⟨_, rfl, S1011, G1011, I1011⟩)
            · skip
              refine pt_d (pt_iconst gx130_78 (fun v1015 h1015 => ?_))
              refine pt_d (pt_1 (fun n d => r_goto gx130_79) ?_)
              refine pt_d (pt_stat (as := [.int v1015]) (r := []) gx130_83 rfl (show zmt[127]? = some zM127 from rfl) rfl rfl rfl rfl (c_127 S1011 h1015) (kqP (fun v1016 h1016 => ?_)))
              show Pt _ _ _ 86 _ [.int v1016] _ _
              exact pt_d (pt_iret gx130_86 ⟨_, rfl, S1011, G1011, I1011⟩)
        · skip
          refine pt_d (pt_1 (fun n d => r_iloadn gx130_42 rfl) ?_)
          refine pt_d (pt_1 (fun n d => r_aloadn gx130_43 rfl) ?_)
          refine pt_d (pt_1 (fun n d => r_iloadn gx130_44 rfl) ?_)
          refine pt_d (pt_virt (as := [.int x1]) (r := [.int v1001]) gx130_45 rfl (show zmt[131]? = some zM131 from rfl) rfl rfl rfl rfl (ihr131 S1006 z1 I1006) (kqI (fun v1017 y1017 h_1017 h1017 P1017 => ?_)))
          have S1017 := P1017.1
          have G1017 := hk_t G1006 P1017.2.1
          have I1017 := P1017.2.2
          show Pt _ _ _ 48 _ [.int v1017, .int v1001] _ _
          refine pt_d (pt_icmp_ne gx130_48 h1001 h1017 (fun e1018 => ?_) (fun e1018 => ?_))
          · skip
            refine pt_d (pt_iconst gx130_55 (fun v1019 h1019 => ?_))
            refine pt_d (pt_stat (as := [.int v1019]) (r := []) gx130_56 rfl (show zmt[127]? = some zM127 from rfl) rfl rfl rfl rfl (c_127 S1017 h1019) (kqP (fun v1020 h1020 => ?_)))
            show Pt _ _ _ 59 _ [.int v1020] _ _
            exact pt_d (pt_iret gx130_59 ⟨_, rfl, S1017, G1017, I1017⟩)
          · skip
            refine pt_d (pt_iconst gx130_51 (fun v1021 h1021 => ?_))
            refine pt_d (pt_1 (fun n d => r_goto gx130_52) ?_)
            refine pt_d (pt_stat (as := [.int v1021]) (r := []) gx130_56 rfl (show zmt[127]? = some zM127 from rfl) rfl rfl rfl rfl (c_127 S1017 h1021) (kqP (fun v1022 h1022 => ?_)))
            show Pt _ _ _ 59 _ [.int v1022] _ _
            exact pt_d (pt_iret gx130_59 ⟨_, rfl, S1017, G1017, I1017⟩)
      · skip
        refine pt_d (pt_1 (fun n d => r_iloadn gx130_15 rfl) ?_)
        refine pt_d (pt_1 (fun n d => r_aloadn gx130_16 rfl) ?_)
        refine pt_d (pt_1 (fun n d => r_iloadn gx130_17 rfl) ?_)
        refine pt_d (pt_virt (as := [.int x1]) (r := [.int v1001]) gx130_18 rfl (show zmt[131]? = some zM131 from rfl) rfl rfl rfl rfl (ihr131 S1003 z1 I1003) (kqI (fun v1023 y1023 h_1023 h1023 P1023 => ?_)))
        have S1023 := P1023.1
        have G1023 := hk_t G1003 P1023.2.1
        have I1023 := P1023.2.2
        show Pt _ _ _ 21 _ [.int v1023, .int v1001] _ _
        refine pt_d (pt_icmp_ge gx130_21 h1001 h1023 (fun e1024 => ?_) (fun e1024 => ?_))
        · skip
          refine pt_d (pt_iconst gx130_28 (fun v1025 h1025 => ?_))
          refine pt_d (pt_stat (as := [.int v1025]) (r := []) gx130_29 rfl (show zmt[127]? = some zM127 from rfl) rfl rfl rfl rfl (c_127 S1023 h1025) (kqP (fun v1026 h1026 => ?_)))
          show Pt _ _ _ 32 _ [.int v1026] _ _
          exact pt_d (pt_iret gx130_32 ⟨_, rfl, S1023, G1023, I1023⟩)
        · skip
          refine pt_d (pt_iconst gx130_24 (fun v1027 h1027 => ?_))
          refine pt_d (pt_1 (fun n d => r_goto gx130_25) ?_)
          refine pt_d (pt_stat (as := [.int v1027]) (r := []) gx130_29 rfl (show zmt[127]? = some zM127 from rfl) rfl rfl rfl rfl (c_127 S1023 h1027) (kqP (fun v1028 h1028 => ?_)))
          show Pt _ _ _ 32 _ [.int v1028] _ _
          exact pt_d (pt_iret gx130_32 ⟨_, rfl, S1023, G1023, I1023⟩)
    · intro h0 h x1 S G I
      obtain ⟨a1, z1⟩ : ∃ a : Int, x1.toInt = a := ⟨_, rfl⟩
      refine pt_1 (fun n d => r_aloadn gx131_0 rfl) ?_
      refine pt_d (pt_1 (fun n d => r_iloadn gx131_1 rfl) ?_)
      refine pt_d (pt_virt (as := [.int x1]) (r := []) gx131_2 rfl (show zmt[132]? = some zM132 from rfl) rfl rfl rfl rfl (ihr132 S z1 I) (kqI (fun v1001 y1001 h_1001 h1001 P1001 => ?_)))
      have S1001 := P1001.1
      have G1001 := hk_t G P1001.2.1
      have I1001 := P1001.2.2
      show Pt _ _ _ 5 _ [.int v1001] _ _
      refine pt_d (pt_1 (fun n d => r_istoren (L' := [some (.ref 33), some (.int x1), some (.int v1001), none]) gx131_5 rfl rfl) ?_)
      refine pt_d (pt_iconst gx131_6 (fun v1002 h1002 => ?_))
      refine pt_d (pt_1 (fun n d => r_istoren (L' := [some (.ref 33), some (.int x1), some (.int v1001), some (.int v1002)]) gx131_7 rfl rfl) ?_)
      exact ih131_8 h0 h_1001 x1 v1001 v1002 S1001 G1001 I1001
    · intro h0 h x1 x2 x3 S G I
      obtain ⟨a1, z1⟩ : ∃ a : Int, x1.toInt = a := ⟨_, rfl⟩
      obtain ⟨a2, z2⟩ : ∃ a : Int, x2.toInt = a := ⟨_, rfl⟩
      obtain ⟨a3, z3⟩ : ∃ a : Int, x3.toInt = a := ⟨_, rfl⟩
      refine pt_1 (fun n d => r_iloadn gx131_8 rfl) ?_
      refine pt_d (pt_sipush gx131_9 (fun v1001 h1001 => ?_))
      refine pt_d (pt_icmp_ge gx131_12 z3 h1001 (fun e1002 => ?_) (fun e1002 => ?_))
      · skip
        refine pt_d (pt_1 (fun n d => r_iloadn gx131_63 rfl) ?_)
        exact pt_d (pt_iret gx131_64 ⟨_, rfl, S, G, I⟩)
      · skip
        refine pt_d (pt_1 (fun n d => r_aloadn gx131_15 rfl) ?_)
        refine pt_d (pt_bipush gx131_16 (fun v1003 h1003 => ?_))
        refine pt_d (pt_virt (as := [.int v1003]) (r := []) gx131_18 rfl (show zmt[125]? = some zM125 from rfl) rfl rfl rfl rfl (wk_125 S h1003 I) (kqI (fun v1004 y1004 h_1004 h1004 P1004 => ?_)))
        have S1004 := P1004.1
        have G1004 := hk_t G P1004.2.1
        have I1004 := P1004.2.2
        show Pt _ _ _ 21 _ [.int v1004] _ _
        refine pt_d (pt_if_eq gx131_21 h1004 (fun e1005 => ?_) (fun e1005 => ?_))
        · skip
          refine pt_d (pt_1 (fun n d => r_aloadn gx131_35 rfl) ?_)
          refine pt_d (pt_bipush gx131_36 (fun v1006 h1006 => ?_))
          refine pt_d (pt_virt (as := [.int v1006]) (r := []) gx131_38 rfl (show zmt[125]? = some zM125 from rfl) rfl rfl rfl rfl (wk_125 S1004 h1006 I1004) (kqI (fun v1007 y1007 h_1007 h1007 P1007 => ?_)))
          have S1007 := P1007.1
          have G1007 := hk_t G1004 P1007.2.1
          have I1007 := P1007.2.2
          show Pt _ _ _ 41 _ [.int v1007] _ _
          refine pt_d (pt_if_eq gx131_41 h1007 (fun e1008 => ?_) (fun e1008 => ?_))
          · skip
            refine pt_d (pt_1 (fun n d => r_iloadn gx131_55 rfl) ?_)
            exact pt_d (pt_iret gx131_56 ⟨_, rfl, S1007, G1007, I1007⟩)
          · skip
            refine pt_d (pt_1 (fun n d => r_iloadn gx131_44 rfl) ?_)
            refine pt_d (pt_1 (fun n d => r_aloadn gx131_45 rfl) ?_)
            refine pt_d (pt_1 (fun n d => r_iloadn gx131_46 rfl) ?_)
            refine pt_d (pt_virt (as := [.int x1]) (r := [.int x2]) gx131_47 rfl (show zmt[132]? = some zM132 from rfl) rfl rfl rfl rfl (ihr132 S1007 z1 I1007) (kqI (fun v1009 y1009 h_1009 h1009 P1009 => ?_)))
            have S1009 := P1009.1
            have G1009 := hk_t G1007 P1009.2.1
            have I1009 := P1009.2.2
            show Pt _ _ _ 50 _ [.int v1009, .int x2] _ _
            refine pt_d (pt_isub gx131_50 z2 h1009 (fun v1010 h1010 => ?_))
            refine pt_d (pt_1 (fun n d => r_istoren (L' := [some (.ref 33), some (.int x1), some (.int v1010), some (.int x3)]) gx131_51 rfl rfl) ?_)
            refine pt_d (pt_1 (fun n d => r_goto gx131_52) ?_)
            refine pt_d (pt_iinc (c := 1) gx131_57 rfl z3 (fun v1011 h1011 => ?_))
            show Pt _ _ _ _ [some (.ref 33), some (.int x1), some (.int v1010), some (.int v1011)] [] _ _
            refine pt_d (pt_1 (fun n d => r_goto gx131_60) ?_)
            exact ih131_8 h0 h_1009 x1 v1010 v1011 S1009 G1009 I1009
        · skip
          refine pt_d (pt_1 (fun n d => r_iloadn gx131_24 rfl) ?_)
          refine pt_d (pt_1 (fun n d => r_aloadn gx131_25 rfl) ?_)
          refine pt_d (pt_1 (fun n d => r_iloadn gx131_26 rfl) ?_)
          refine pt_d (pt_virt (as := [.int x1]) (r := [.int x2]) gx131_27 rfl (show zmt[132]? = some zM132 from rfl) rfl rfl rfl rfl (ihr132 S1004 z1 I1004) (kqI (fun v1012 y1012 h_1012 h1012 P1012 => ?_)))
          have S1012 := P1012.1
          have G1012 := hk_t G1004 P1012.2.1
          have I1012 := P1012.2.2
          show Pt _ _ _ 30 _ [.int v1012, .int x2] _ _
          refine pt_d (pt_iadd gx131_30 z2 h1012 (fun v1013 h1013 => ?_))
          refine pt_d (pt_1 (fun n d => r_istoren (L' := [some (.ref 33), some (.int x1), some (.int v1013), some (.int x3)]) gx131_31 rfl rfl) ?_)
          refine pt_d (pt_1 (fun n d => r_goto gx131_32) ?_)
          refine pt_d (pt_iinc (c := 1) gx131_57 rfl z3 (fun v1014 h1014 => ?_))
          show Pt _ _ _ _ [some (.ref 33), some (.int x1), some (.int v1013), some (.int v1014)] [] _ _
          refine pt_d (pt_1 (fun n d => r_goto gx131_60) ?_)
          exact ih131_8 h0 h_1012 x1 v1013 v1014 S1012 G1012 I1012
    · intro h0 h x1 S G I
      obtain ⟨a1, z1⟩ : ∃ a : Int, x1.toInt = a := ⟨_, rfl⟩
      refine pt_1 (fun n d => r_aloadn gx132_0 rfl) ?_
      refine pt_d (pt_1 (fun n d => r_iloadn gx132_1 rfl) ?_)
      refine pt_d (pt_virt (as := [.int x1]) (r := []) gx132_2 rfl (show zmt[133]? = some zM133 from rfl) rfl rfl rfl rfl (ihr133 S z1 I) (kqI (fun v1001 y1001 h_1001 h1001 P1001 => ?_)))
      have S1001 := P1001.1
      have G1001 := hk_t G P1001.2.1
      have I1001 := P1001.2.2
      show Pt _ _ _ 5 _ [.int v1001] _ _
      refine pt_d (pt_1 (fun n d => r_istoren (L' := [some (.ref 33), some (.int x1), some (.int v1001), none, none]) gx132_5 rfl rfl) ?_)
      refine pt_d (pt_iconst gx132_6 (fun v1002 h1002 => ?_))
      refine pt_d (pt_1 (fun n d => r_istoren (L' := [some (.ref 33), some (.int x1), some (.int v1001), some (.int v1002), none]) gx132_7 rfl rfl) ?_)
      exact ih132_8 h0 h_1001 x1 v1001 v1002 _ S1001 G1001 I1001
    · intro h0 h x1 x2 x3 u4 S G I
      obtain ⟨a1, z1⟩ : ∃ a : Int, x1.toInt = a := ⟨_, rfl⟩
      obtain ⟨a2, z2⟩ : ∃ a : Int, x2.toInt = a := ⟨_, rfl⟩
      obtain ⟨a3, z3⟩ : ∃ a : Int, x3.toInt = a := ⟨_, rfl⟩
      refine pt_1 (fun n d => r_iloadn gx132_8 rfl) ?_
      refine pt_d (pt_sipush gx132_9 (fun v1001 h1001 => ?_))
      refine pt_d (pt_icmp_ge gx132_12 z3 h1001 (fun e1002 => ?_) (fun e1002 => ?_))
      · skip
        refine pt_d (pt_1 (fun n d => r_iloadn gx132_109 rfl) ?_)
        exact pt_d (pt_iret gx132_110 ⟨_, rfl, S, G, I⟩)
      · skip
        refine pt_d (pt_1 (fun n d => r_aloadn gx132_15 rfl) ?_)
        refine pt_d (pt_bipush gx132_16 (fun v1003 h1003 => ?_))
        refine pt_d (pt_virt (as := [.int v1003]) (r := []) gx132_18 rfl (show zmt[125]? = some zM125 from rfl) rfl rfl rfl rfl (wk_125 S h1003 I) (kqI (fun v1004 y1004 h_1004 h1004 P1004 => ?_)))
        have S1004 := P1004.1
        have G1004 := hk_t G P1004.2.1
        have I1004 := P1004.2.2
        show Pt _ _ _ 21 _ [.int v1004] _ _
        refine pt_d (pt_if_eq gx132_21 h1004 (fun e1005 => ?_) (fun e1005 => ?_))
        · skip
          refine pt_d (pt_1 (fun n d => r_aloadn gx132_35 rfl) ?_)
          refine pt_d (pt_bipush gx132_36 (fun v1006 h1006 => ?_))
          refine pt_d (pt_virt (as := [.int v1006]) (r := []) gx132_38 rfl (show zmt[125]? = some zM125 from rfl) rfl rfl rfl rfl (wk_125 S1004 h1006 I1004) (kqI (fun v1007 y1007 h_1007 h1007 P1007 => ?_)))
          have S1007 := P1007.1
          have G1007 := hk_t G1004 P1007.2.1
          have I1007 := P1007.2.2
          show Pt _ _ _ 41 _ [.int v1007] _ _
          refine pt_d (pt_if_eq gx132_41 h1007 (fun e1008 => ?_) (fun e1008 => ?_))
          · skip
            refine pt_d (pt_1 (fun n d => r_aloadn gx132_68 rfl) ?_)
            refine pt_d (pt_bipush gx132_69 (fun v1009 h1009 => ?_))
            refine pt_d (pt_virt (as := [.int v1009]) (r := []) gx132_71 rfl (show zmt[125]? = some zM125 from rfl) rfl rfl rfl rfl (wk_125 S1007 h1009 I1007) (kqI (fun v1010 y1010 h_1010 h1010 P1010 => ?_)))
            have S1010 := P1010.1
            have G1010 := hk_t G1007 P1010.2.1
            have I1010 := P1010.2.2
            show Pt _ _ _ 74 _ [.int v1010] _ _
            refine pt_d (pt_if_eq gx132_74 h1010 (fun e1011 => ?_) (fun e1011 => ?_))
            · skip
              refine pt_d (pt_1 (fun n d => r_iloadn gx132_101 rfl) ?_)
              exact pt_d (pt_iret gx132_102 ⟨_, rfl, S1010, G1010, I1010⟩)
            · skip
              refine pt_d (pt_1 (fun n d => r_aloadn gx132_77 rfl) ?_)
              refine pt_d (pt_1 (fun n d => r_iloadn gx132_78 rfl) ?_)
              refine pt_d (pt_virt (as := [.int x1]) (r := []) gx132_79 rfl (show zmt[133]? = some zM133 from rfl) rfl rfl rfl rfl (ihr133 S1010 z1 I1010) (kqI (fun v1012 y1012 h_1012 h1012 P1012 => ?_)))
              have S1012 := P1012.1
              have G1012 := hk_t G1010 P1012.2.1
              have I1012 := P1012.2.2
              show Pt _ _ _ 82 _ [.int v1012] _ _
              refine pt_d (pt_1 (fun n d => r_istore (L' := [some (.ref 33), some (.int x1), some (.int x2), some (.int x3), some (.int v1012)]) gx132_82 rfl rfl) ?_)
              refine pt_d (pt_1 (fun n d => r_iload gx132_84 rfl) ?_)
              refine pt_d (pt_if_ne gx132_86 h1012 (fun e1013 => ?_) (fun e1013 => ?_))
              · skip
                refine pt_d (pt_1 (fun n d => r_iloadn gx132_93 rfl) ?_)
                refine pt_d (pt_1 (fun n d => r_iload gx132_94 rfl) ?_)
                refine pt_d (pt_irem gx132_96 z2 h1012 (fun v1014 h1014 => ?_))
                refine pt_d (pt_1 (fun n d => r_istoren (L' := [some (.ref 33), some (.int x1), some (.int v1014), some (.int x3), some (.int v1012)]) gx132_97 rfl rfl) ?_)
                refine pt_d (pt_1 (fun n d => r_goto gx132_98) ?_)
                refine pt_d (pt_iinc (c := 1) gx132_103 rfl z3 (fun v1015 h1015 => ?_))
                show Pt _ _ _ _ [some (.ref 33), some (.int x1), some (.int v1014), some (.int v1015), some (.int v1012)] [] _ _
                refine pt_d (pt_1 (fun n d => r_goto gx132_106) ?_)
                exact ih132_8 h0 h_1012 x1 v1014 v1015 _ S1012 G1012 I1012
              · skip
                refine pt_d (pt_iconst gx132_89 (fun v1016 h1016 => ?_))
                refine pt_d (pt_1 (fun n d => r_goto gx132_90) ?_)
                refine pt_d (pt_1 (fun n d => r_istoren (L' := [some (.ref 33), some (.int x1), some (.int v1016), some (.int x3), some (.int v1012)]) gx132_97 rfl rfl) ?_)
                refine pt_d (pt_1 (fun n d => r_goto gx132_98) ?_)
                refine pt_d (pt_iinc (c := 1) gx132_103 rfl z3 (fun v1017 h1017 => ?_))
                show Pt _ _ _ _ [some (.ref 33), some (.int x1), some (.int v1016), some (.int v1017), some (.int v1012)] [] _ _
                refine pt_d (pt_1 (fun n d => r_goto gx132_106) ?_)
                exact ih132_8 h0 h_1012 x1 v1016 v1017 _ S1012 G1012 I1012
          · skip
            refine pt_d (pt_1 (fun n d => r_aloadn gx132_44 rfl) ?_)
            refine pt_d (pt_1 (fun n d => r_iloadn gx132_45 rfl) ?_)
            refine pt_d (pt_virt (as := [.int x1]) (r := []) gx132_46 rfl (show zmt[133]? = some zM133 from rfl) rfl rfl rfl rfl (ihr133 S1007 z1 I1007) (kqI (fun v1018 y1018 h_1018 h1018 P1018 => ?_)))
            have S1018 := P1018.1
            have G1018 := hk_t G1007 P1018.2.1
            have I1018 := P1018.2.2
            show Pt _ _ _ 49 _ [.int v1018] _ _
            refine pt_d (pt_1 (fun n d => r_istore (L' := [some (.ref 33), some (.int x1), some (.int x2), some (.int x3), some (.int v1018)]) gx132_49 rfl rfl) ?_)
            refine pt_d (pt_1 (fun n d => r_iload gx132_51 rfl) ?_)
            refine pt_d (pt_if_ne gx132_53 h1018 (fun e1019 => ?_) (fun e1019 => ?_))
            · skip
              refine pt_d (pt_1 (fun n d => r_iloadn gx132_60 rfl) ?_)
              refine pt_d (pt_1 (fun n d => r_iload gx132_61 rfl) ?_)
              refine pt_d (pt_idiv gx132_63 z2 h1018 (fun v1020 h1020 => ?_))
              refine pt_d (pt_1 (fun n d => r_istoren (L' := [some (.ref 33), some (.int x1), some (.int v1020), some (.int x3), some (.int v1018)]) gx132_64 rfl rfl) ?_)
              refine pt_d (pt_1 (fun n d => r_goto gx132_65) ?_)
              refine pt_d (pt_iinc (c := 1) gx132_103 rfl z3 (fun v1021 h1021 => ?_))
              show Pt _ _ _ _ [some (.ref 33), some (.int x1), some (.int v1020), some (.int v1021), some (.int v1018)] [] _ _
              refine pt_d (pt_1 (fun n d => r_goto gx132_106) ?_)
              exact ih132_8 h0 h_1018 x1 v1020 v1021 _ S1018 G1018 I1018
            · skip
              refine pt_d (pt_iconst gx132_56 (fun v1022 h1022 => ?_))
              refine pt_d (pt_1 (fun n d => r_goto gx132_57) ?_)
              refine pt_d (pt_1 (fun n d => r_istoren (L' := [some (.ref 33), some (.int x1), some (.int v1022), some (.int x3), some (.int v1018)]) gx132_64 rfl rfl) ?_)
              refine pt_d (pt_1 (fun n d => r_goto gx132_65) ?_)
              refine pt_d (pt_iinc (c := 1) gx132_103 rfl z3 (fun v1023 h1023 => ?_))
              show Pt _ _ _ _ [some (.ref 33), some (.int x1), some (.int v1022), some (.int v1023), some (.int v1018)] [] _ _
              refine pt_d (pt_1 (fun n d => r_goto gx132_106) ?_)
              exact ih132_8 h0 h_1018 x1 v1022 v1023 _ S1018 G1018 I1018
        · skip
          refine pt_d (pt_1 (fun n d => r_iloadn gx132_24 rfl) ?_)
          refine pt_d (pt_1 (fun n d => r_aloadn gx132_25 rfl) ?_)
          refine pt_d (pt_1 (fun n d => r_iloadn gx132_26 rfl) ?_)
          refine pt_d (pt_virt (as := [.int x1]) (r := [.int x2]) gx132_27 rfl (show zmt[133]? = some zM133 from rfl) rfl rfl rfl rfl (ihr133 S1004 z1 I1004) (kqI (fun v1024 y1024 h_1024 h1024 P1024 => ?_)))
          have S1024 := P1024.1
          have G1024 := hk_t G1004 P1024.2.1
          have I1024 := P1024.2.2
          show Pt _ _ _ 30 _ [.int v1024, .int x2] _ _
          refine pt_d (pt_imul gx132_30 z2 h1024 (fun v1025 h1025 => ?_))
          refine pt_d (pt_1 (fun n d => r_istoren (L' := [some (.ref 33), some (.int x1), some (.int v1025), some (.int x3), u4]) gx132_31 rfl rfl) ?_)
          refine pt_d (pt_1 (fun n d => r_goto gx132_32) ?_)
          refine pt_d (pt_iinc (c := 1) gx132_103 rfl z3 (fun v1026 h1026 => ?_))
          show Pt _ _ _ _ [some (.ref 33), some (.int x1), some (.int v1025), some (.int v1026), u4] [] _ _
          refine pt_d (pt_1 (fun n d => r_goto gx132_106) ?_)
          exact ih132_8 h0 h_1024 x1 v1025 v1026 _ S1024 G1024 I1024
    · intro h0 h x1 S G I
      obtain ⟨a1, z1⟩ : ∃ a : Int, x1.toInt = a := ⟨_, rfl⟩
      refine pt_1 (fun n d => r_aloadn gx133_0 rfl) ?_
      refine pt_d (pt_virt (as := []) (r := []) gx133_1 rfl (show zmt[124]? = some zM124 from rfl) rfl rfl rfl rfl (c_124 S) (kqP (fun v1001 h1001 => ?_)))
      show Pt _ _ _ 4 _ [.int v1001] _ _
      refine pt_d (pt_1 (fun n d => r_istoren (L' := [some (.ref 33), some (.int x1), some (.int v1001), none, none]) gx133_4 rfl rfl) ?_)
      refine pt_d (pt_1 (fun n d => r_iloadn gx133_5 rfl) ?_)
      refine pt_d (pt_stat (as := [.int v1001]) (r := []) gx133_6 rfl (show zmt[134]? = some zM134 from rfl) rfl rfl rfl rfl (c_134 S h1001) (kqP (fun v1002 h1002 => ?_)))
      show Pt _ _ _ 9 _ [.int v1002] _ _
      refine pt_d (pt_ifB_eq gx133_9 h1002 (fun e1003 => ?_) (fun e1003 => ?_))
      · skip
        refine pt_d (pt_1 (fun n d => r_iloadn gx133_17 rfl) ?_)
        refine pt_d (pt_iconst gx133_18 (fun v1004 h1004 => ?_))
        refine pt_d (pt_icmp_ne gx133_19 h1001 h1004 (fun e1005 => ?_) (fun e1005 => ?_))
        · skip
          refine pt_d (pt_1 (fun n d => r_ldcS gx133_26) ?_)
          refine pt_d (pt_1 (fun n d => r_iloadn gx133_28 rfl) ?_)
          refine pt_d (pt_i2c gx133_29 h1001 (fun v1006 h1006 => ?_))
          refine pt_d (pt_ix gx133_30 rfl h1006 (fun v1007 h1007 => ?_))
          exact ih133_33 h0 h x1 v1001 v1007 S G I
        · skip
          refine pt_d (pt_iconst gx133_22 (fun v1008 h1008 => ?_))
          refine pt_d (pt_1 (fun n d => r_goto gx133_23) ?_)
          exact ih133_33 h0 h x1 v1001 v1008 S G I
      · skip
        refine pt_d (pt_1 (fun n d => r_aloadn gx133_12 rfl) ?_)
        refine pt_d (pt_virt (as := []) (r := []) gx133_13 rfl (show zmt[135]? = some zM135 from rfl) rfl rfl rfl rfl (wk_135 S I) (kqI (fun v1009 y1009 h_1009 h1009 P1009 => ?_)))
        have S1009 := P1009.1
        have G1009 := hk_t G P1009.2.1
        have I1009 := P1009.2.2
        show Pt _ _ _ 16 _ [.int v1009] _ _
        exact pt_d (pt_iret gx133_16 ⟨_, rfl, S1009, G1009, I1009⟩)
    · intro h0 h x1 x2 xs0 S G I
      obtain ⟨a1, z1⟩ : ∃ a : Int, x1.toInt = a := ⟨_, rfl⟩
      obtain ⟨a2, z2⟩ : ∃ a : Int, x2.toInt = a := ⟨_, rfl⟩
      obtain ⟨as0, zs0⟩ : ∃ a : Int, xs0.toInt = a := ⟨_, rfl⟩
      refine pt_1 (fun n d => r_istoren (L' := [some (.ref 33), some (.int x1), some (.int x2), some (.int xs0), none]) gx133_33 rfl rfl) ?_
      refine pt_d (pt_1 (fun n d => r_iloadn gx133_34 rfl) ?_)
      refine pt_d (pt_iconst gx133_35 (fun v1001 h1001 => ?_))
      refine pt_d (pt_icmp_eq gx133_36 zs0 h1001 (fun e1002 => ?_) (fun e1002 => ?_))
      · skip
        refine pt_d (pt_1 (fun n d => r_iloadn gx133_56 rfl) ?_)
        refine pt_d (pt_bipush gx133_57 (fun v1003 h1003 => ?_))
        refine pt_d (pt_icmp_lt gx133_59 z1 h1003 (fun e1004 => ?_) (fun e1004 => ?_))
        · skip
          refine pt_d (pt_1 (fun n d => r_aloadn gx133_68 rfl) ?_)
          refine pt_d (pt_bipush gx133_69 (fun v1005 h1005 => ?_))
          refine pt_d (pt_virt (as := [.int v1005]) (r := []) gx133_71 rfl (show zmt[125]? = some zM125 from rfl) rfl rfl rfl rfl (wk_125 S h1005 I) (kqI (fun v1006 y1006 h_1006 h1006 P1006 => ?_)))
          have S1006 := P1006.1
          have G1006 := hk_t G P1006.2.1
          have I1006 := P1006.2.2
          show Pt _ _ _ 74 _ [.int v1006] _ _
          refine pt_d (pt_if_eq gx133_74 h1006 (fun e1007 => ?_) (fun e1007 => ?_))
          · skip
            refine pt_d (pt_1 (fun n d => r_aloadn gx133_96 rfl) ?_)
            refine pt_d (pt_bipush gx133_97 (fun v1008 h1008 => ?_))
            refine pt_d (pt_virt (as := [.int v1008]) (r := []) gx133_99 rfl (show zmt[125]? = some zM125 from rfl) rfl rfl rfl rfl (wk_125 S1006 h1008 I1006) (kqI (fun v1009 y1009 h_1009 h1009 P1009 => ?_)))
            have S1009 := P1009.1
            have G1009 := hk_t G1006 P1009.2.1
            have I1009 := P1009.2.2
            show Pt _ _ _ 102 _ [.int v1009] _ _
            refine pt_d (pt_if_eq gx133_102 h1009 (fun e1010 => ?_) (fun e1010 => ?_))
            · skip
              refine pt_d (pt_1 (fun n d => r_aloadn gx133_114 rfl) ?_)
              refine pt_d (pt_bipush gx133_115 (fun v1011 h1011 => ?_))
              refine pt_d (pt_virt (as := [.int v1011]) (r := []) gx133_117 rfl (show zmt[125]? = some zM125 from rfl) rfl rfl rfl rfl (wk_125 S1009 h1011 I1009) (kqI (fun v1012 y1012 h_1012 h1012 P1012 => ?_)))
              have S1012 := P1012.1
              have G1012 := hk_t G1009 P1012.2.1
              have I1012 := P1012.2.2
              show Pt _ _ _ 120 _ [.int v1012] _ _
              refine pt_d (pt_if_ne gx133_120 h1012 (fun e1013 => ?_) (fun e1013 => ?_))
              · skip
                refine pt_d (pt_1 (fun n d => r_aloadn gx133_129 rfl) ?_)
                refine pt_d (pt_1 (fun n d => r_iloadn gx133_130 rfl) ?_)
                refine pt_d (pt_iconst gx133_131 (fun v1014 h1014 => ?_))
                refine pt_d (pt_iadd gx133_132 z1 h1014 (fun v1015 h1015 => ?_))
                refine pt_d (pt_virt (as := [.int v1015]) (r := []) gx133_133 rfl (show zmt[128]? = some zM128 from rfl) rfl rfl rfl rfl (ihr128 S1012 h1015 I1012) (kqI (fun v1016 y1016 h_1016 h1016 P1016 => ?_)))
                have S1016 := P1016.1
                have G1016 := hk_t G1012 P1016.2.1
                have I1016 := P1016.2.2
                show Pt _ _ _ 136 _ [.int v1016] _ _
                refine pt_d (pt_1 (fun n d => r_istore (L' := [some (.ref 33), some (.int x1), some (.int x2), some (.int xs0), some (.int v1016)]) gx133_136 rfl rfl) ?_)
                refine pt_d (pt_1 (fun n d => r_aloadn gx133_138 rfl) ?_)
                refine pt_d (pt_bipush gx133_139 (fun v1017 h1017 => ?_))
                refine pt_d (pt_virt (as := [.int v1017]) (r := []) gx133_141 rfl (show zmt[125]? = some zM125 from rfl) rfl rfl rfl rfl (wk_125 S1016 h1017 I1016) (kqI (fun v1018 y1018 h_1018 h1018 P1018 => ?_)))
                have S1018 := P1018.1
                have G1018 := hk_t G1016 P1018.2.1
                have I1018 := P1018.2.2
                show Pt _ _ _ 144 _ [.int v1018] _ _
                refine pt_d (pt_if_ne gx133_144 h1018 (fun e1019 => ?_) (fun e1019 => ?_))
                · skip
                  exact ih133_151 h0 h_1018 x1 x2 xs0 v1016 S1018 G1018 I1018
                · skip
                  refine pt_d (pt_1 (fun n d => r_aloadn gx133_147 rfl) ?_)
                  refine pt_d (pt_virt (as := []) (r := []) gx133_148 rfl (show zmt[126]? = some zM126 from rfl) rfl rfl rfl rfl (wk_126 S1018 I1018) (kqN (fun h_1020 P1020 => ?_)))
                  have S1020 := P1020.1
                  have G1020 := hk_t G1018 P1020.2.1
                  have I1020 := P1020.2.2
                  show Pt _ _ _ 151 _ [] _ _
                  exact ih133_151 h0 h_1020 x1 x2 xs0 v1016 S1020 G1020 I1020
              · skip
                refine pt_d (pt_1 (fun n d => r_aloadn gx133_123 rfl) ?_)
                refine pt_d (pt_virt (as := []) (r := []) gx133_124 rfl (show zmt[126]? = some zM126 from rfl) rfl rfl rfl rfl (wk_126 S1012 I1012) (kqN (fun h_1021 P1021 => ?_)))
                have S1021 := P1021.1
                have G1021 := hk_t G1012 P1021.2.1
                have I1021 := P1021.2.2
                show Pt _ _ _ 127 _ [] _ _
                refine pt_d (pt_iconst gx133_127 (fun v1022 h1022 => ?_))
                exact pt_d (pt_iret gx133_128 ⟨_, rfl, S1021, G1021, I1021⟩)
            · skip
              refine pt_d (pt_1 (fun n d => r_aloadn gx133_105 rfl) ?_)
              refine pt_d (pt_1 (fun n d => r_iloadn gx133_106 rfl) ?_)
              refine pt_d (pt_iconst gx133_107 (fun v1023 h1023 => ?_))
              refine pt_d (pt_iadd gx133_108 z1 h1023 (fun v1024 h1024 => ?_))
              refine pt_d (pt_virt (as := [.int v1024]) (r := []) gx133_109 rfl (show zmt[133]? = some zM133 from rfl) rfl rfl rfl rfl (ihr133 S1009 h1024 I1009) (kqI (fun v1025 y1025 h_1025 h1025 P1025 => ?_)))
              have S1025 := P1025.1
              have G1025 := hk_t G1009 P1025.2.1
              have I1025 := P1025.2.2
              show Pt _ _ _ 112 _ [.int v1025] _ _
              refine pt_d (pt_ineg gx133_112 h1025 (fun v1026 h1026 => ?_))
              exact pt_d (pt_iret gx133_113 ⟨_, rfl, S1025, G1025, I1025⟩)
          · skip
            refine pt_d (pt_1 (fun n d => r_aloadn gx133_77 rfl) ?_)
            refine pt_d (pt_1 (fun n d => r_iloadn gx133_78 rfl) ?_)
            refine pt_d (pt_iconst gx133_79 (fun v1027 h1027 => ?_))
            refine pt_d (pt_iadd gx133_80 z1 h1027 (fun v1028 h1028 => ?_))
            refine pt_d (pt_virt (as := [.int v1028]) (r := []) gx133_81 rfl (show zmt[133]? = some zM133 from rfl) rfl rfl rfl rfl (ihr133 S1006 h1028 I1006) (kqI (fun v1029 y1029 h_1029 h1029 P1029 => ?_)))
            have S1029 := P1029.1
            have G1029 := hk_t G1006 P1029.2.1
            have I1029 := P1029.2.2
            show Pt _ _ _ 84 _ [.int v1029] _ _
            refine pt_d (pt_if_ne gx133_84 h1029 (fun e1030 => ?_) (fun e1030 => ?_))
            · skip
              refine pt_d (pt_iconst gx133_91 (fun v1031 h1031 => ?_))
              exact ih133_92 h0 h_1029 x1 x2 xs0 v1031 S1029 G1029 I1029
            · skip
              refine pt_d (pt_iconst gx133_87 (fun v1032 h1032 => ?_))
              refine pt_d (pt_1 (fun n d => r_goto gx133_88) ?_)
              exact ih133_92 h0 h_1029 x1 x2 xs0 v1032 S1029 G1029 I1029
        · skip
          refine pt_d (pt_1 (fun n d => r_aloadn gx133_62 rfl) ?_)
          refine pt_d (pt_virt (as := []) (r := []) gx133_63 rfl (show zmt[126]? = some zM126 from rfl) rfl rfl rfl rfl (wk_126 S I) (kqN (fun h_1033 P1033 => ?_)))
          have S1033 := P1033.1
          have G1033 := hk_t G P1033.2.1
          have I1033 := P1033.2.2
          show Pt _ _ _ 66 _ [] _ _
          refine pt_d (pt_iconst gx133_66 (fun v1034 h1034 => ?_))
          exact pt_d (pt_iret gx133_67 ⟨_, rfl, S1033, G1033, I1033⟩)
      · skip
        refine pt_d (pt_1 (fun n d => r_aloadn gx133_39 rfl) ?_)
        refine pt_d (pt_1 (fun n d => r_dup gx133_40 rfl) ?_)
        refine pt_d (pt_getI (B := 11) gx133_41 S (fun v1035 h1035 => ?_))
        refine pt_d (pt_iconst gx133_44 (fun v1036 h1036 => ?_))
        refine pt_d (pt_iadd gx133_45 h1035 h1036 (fun v1037 h1037 => ?_))
        refine pt_d (pt_putIh (B := 11) gx133_46 S h1037 (fun h_1038 S1038 e1038 K1038 => ?_))
        have G1038 := hk_t G K1038
        have I1038 := IV_uf I K1038 e1038 (by decide)
        refine pt_d (pt_1 (fun n d => r_aloadn gx133_49 rfl) ?_)
        refine pt_d (pt_getD (B := 13) gx133_50 S1038 (fun k1039 => ?_) (fun q1039 k1039 => ?_))
        · skip
          refine pt_d (pt_1 (fun n d => r_iloadn gx133_53 rfl) ?_)
          exact pt_d (pt_ialdN gx133_54)
        · skip
          refine pt_d (pt_1 (fun n d => r_iloadn gx133_53 rfl) ?_)
          refine pt_d (pt_ialdD gx133_54 zs0 (fun v1041 p1041 h1041 => ?_))
          exact pt_d (pt_iret gx133_55 ⟨_, rfl, S1038, G1038, I1038⟩)
    · intro h0 h x1 x2 x3 xs0 S G I
      obtain ⟨a1, z1⟩ : ∃ a : Int, x1.toInt = a := ⟨_, rfl⟩
      obtain ⟨a2, z2⟩ : ∃ a : Int, x2.toInt = a := ⟨_, rfl⟩
      obtain ⟨a3, z3⟩ : ∃ a : Int, x3.toInt = a := ⟨_, rfl⟩
      obtain ⟨as0, zs0⟩ : ∃ a : Int, xs0.toInt = a := ⟨_, rfl⟩
      refine pt_stat (as := [.int xs0]) (r := []) gx133_92 rfl (show zmt[127]? = some zM127 from rfl) rfl rfl rfl rfl (c_127 S zs0) (kqP (fun v1001 h1001 => ?_))
      show Pt _ _ _ 95 _ [.int v1001] _ _
      exact pt_d (pt_iret gx133_95 ⟨_, rfl, S, G, I⟩)
    · intro h0 h x1 x2 x3 x4 S G I
      obtain ⟨a1, z1⟩ : ∃ a : Int, x1.toInt = a := ⟨_, rfl⟩
      obtain ⟨a2, z2⟩ : ∃ a : Int, x2.toInt = a := ⟨_, rfl⟩
      obtain ⟨a3, z3⟩ : ∃ a : Int, x3.toInt = a := ⟨_, rfl⟩
      obtain ⟨a4, z4⟩ : ∃ a : Int, x4.toInt = a := ⟨_, rfl⟩
      refine pt_1 (fun n d => r_iload gx133_151 rfl) ?_
      exact pt_d (pt_iret gx133_153 ⟨_, rfl, S, G, I⟩)
theorem wk_128 {n : Nat} {X : aX} {h : aH} {x1 : Int32} {a1 : Int} (S : wS h) (z1 : x1.toInt = a1) (I : IV h) : Pt n X zM128 0 [some (.ref 33), some (.int x1), none, none, none] [] h (qI (fun _ h' => wS h' ∧ hk h h' ∧ IV h')) := (wl_128 n).1 h h x1 S (hk_r h) I
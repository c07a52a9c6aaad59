-- ===== seasons: the order of the claims =====
theorem e157_0 {n : Nat} {X : aX} {h : aH} {P : Int → aH → Prop} {x1 x2 x3 : Int32} {a1 a2 a3 : Int} (S : wS h) (z1 : x1.toInt = a1) (z2 : x2.toInt = a2) (z3 : x3.toInt = a3) (H : ((¬ (cFarm (vw h) a1) → P (-1) h) ∧ ((cFarm (vw h) a1) → ((¬ (cField (vw h) a2) → P (-1) h) ∧ ((cField (vw h) a2) → (((0 ≤ a3 ∧ a3 ≤ 7) → (0 ≤ a2 → a2 < 150 → ((vw h 2 a2 ≠ 5 → (vw h 1 6 ≤ 200 ∧ ((cHold (vw h) a2 (vw h 1 0) (vw h 1 0) ≠ a1 → P (-2) h) ∧ (cHold (vw h) a2 (vw h 1 0) (vw h 1 0) = a1 → ((vw h 5 a2 = (-1) → ((vw h 16 1 < 300 → ∀ (y34 : Int) (h_34 : aH), (wS h_34 ∧ RClo (vw h) a1 a2 a3 y34 (vw h_34)) → P y34 h_34) ∧ (300 ≤ vw h 16 1 → P (-3) h))) ∧ (vw h 5 a2 ≠ (-1) → P (-2) h)))))) ∧ (vw h 2 a2 = 5 → ((a3 = 0 → (vw h 1 6 ≤ 200 ∧ ((cHold (vw h) a2 (vw h 1 0) (vw h 1 0) ≠ a1 → P (-2) h) ∧ (cHold (vw h) a2 (vw h 1 0) (vw h 1 0) = a1 → ((vw h 5 a2 = (-1) → ((vw h 16 1 < 300 → ∀ (y56 : Int) (h_56 : aH), (wS h_56 ∧ RClo (vw h) a1 a2 a3 y56 (vw h_56)) → P y56 h_56) ∧ (300 ≤ vw h 16 1 → P (-3) h))) ∧ (vw h 5 a2 ≠ (-1) → P (-2) h)))))) ∧ (a3 ≠ 0 → P (-1) h)))))) ∧ (¬ (0 ≤ a3 ∧ a3 ≤ 7) → P (-1) h))))))) : Pt (n + 1) X zM157 0 [some (.ref 0), some (.int x1), some (.int x2), some (.int x3)] [] h (qI P) := by
  refine pt_1 (fun n d => r_aloadn gx157_0 rfl) ?_
  refine pt_d (pt_getR gx157_1 S tr_0_0 ?_)
  refine pt_d (pt_1 (fun n d => r_iloadn gx157_4 rfl) ?_)
  refine pt_d (pt_virt (as := [.int x1]) (r := []) gx157_5 rfl (show zmt[75]? = some zM75 from rfl) rfl rfl rfl rfl (c_75 S z1) (kqP (fun v2 h2 => ?_)))
  show Pt _ _ _ 8 _ [.int v2] _ _
  refine pt_d (pt_ifB_eq gx157_8 h2 (fun e3 => ?_) (fun e3 => ?_))
  · have H := H.1 e3
    refine pt_d (pt_iconst gx157_29 (fun v4 h4 => ?_))
    exact pt_d (pt_iret gx157_30 ⟨_, rfl, by rw [h4]; exact H⟩)
  · have H := H.2 e3
    refine pt_d (pt_1 (fun n d => r_aloadn gx157_11 rfl) ?_)
    refine pt_d (pt_getR gx157_12 S tr_0_0 ?_)
    refine pt_d (pt_1 (fun n d => r_iloadn gx157_15 rfl) ?_)
    refine pt_d (pt_virt (as := [.int x2]) (r := []) gx157_16 rfl (show zmt[77]? = some zM77 from rfl) rfl rfl rfl rfl (c_77 S z2) (kqP (fun v6 h6 => ?_)))
    show Pt _ _ _ 19 _ [.int v6] _ _
    refine pt_d (pt_ifB_eq gx157_19 h6 (fun e7 => ?_) (fun e7 => ?_))
    · have H := H.1 e7
      refine pt_d (pt_iconst gx157_29 (fun v8 h8 => ?_))
      exact pt_d (pt_iret gx157_30 ⟨_, rfl, by rw [h8]; exact H⟩)
    · have H := H.2 e7
      refine pt_d (pt_1 (fun n d => r_iloadn gx157_22 rfl) ?_)
      refine pt_d (pt_stat (as := [.int x3]) (r := []) gx157_23 rfl (show zmt[141]? = some zM141 from rfl) rfl rfl rfl rfl (c_141 S z3) (kqP (fun v9 h9 => ?_)))
      show Pt _ _ _ 26 _ [.int v9] _ _
      refine pt_d (pt_ifB_ne gx157_26 h9 (fun e10 => ?_) (fun e10 => ?_))
      · have H := H.1 e10
        refine pt_d (pt_1 (fun n d => r_aloadn gx157_31 rfl) ?_)
        refine pt_d (pt_getR gx157_32 S tr_0_0 ?_)
        refine pt_d (pt_getR gx157_35 S tr_1_7 ?_)
        refine pt_d (pt_1 (fun n d => r_iloadn gx157_38 rfl) ?_)
        refine pt_d (pt_iald (N' := 150) gx157_39 S tl_2 z2 (fun v13 p13 q13 h13 => ?_))
        have H := H p13 q13
        refine pt_d (pt_iconst gx157_40 (fun v14 h14 => ?_))
        refine pt_d (pt_icmp_ne gx157_41 h13 h14 (fun e15 => ?_) (fun e15 => ?_))
        · have H := H.1 e15
          refine pt_d (pt_1 (fun n d => r_aloadn gx157_50 rfl) ?_)
          refine pt_d (pt_getR gx157_51 S tr_0_0 ?_)
          refine pt_d (pt_1 (fun n d => r_iloadn gx157_54 rfl) ?_)
          refine pt_d (pt_1 (fun n d => r_aloadn gx157_55 rfl) ?_)
          refine pt_d (pt_getR gx157_56 S tr_0_0 ?_)
          refine pt_d (pt_getI (B := 0) gx157_59 S (fun v18 h18 => ?_))
          refine pt_d (pt_1 (fun n d => r_aloadn gx157_62 rfl) ?_)
          refine pt_d (pt_getR gx157_63 S tr_0_0 ?_)
          refine pt_d (pt_getI (B := 0) gx157_66 S (fun v20 h20 => ?_))
          obtain ⟨pr21, H⟩ := H
          refine pt_d (pt_virt (as := [.int x2, .int v18, .int v20]) (r := []) gx157_69 rfl (show zmt[86]? = some zM86 from rfl) rfl rfl rfl rfl (c_86 S z2 h18 h20 pr21) (kqP (fun v21 h21 => ?_)))
          show Pt _ _ _ 72 _ [.int v21] _ _
          refine pt_d (pt_1 (fun n d => r_iloadn gx157_72 rfl) ?_)
          refine pt_d (pt_icmp_ne gx157_73 h21 z1 (fun e22 => ?_) (fun e22 => ?_))
          · have H := H.1 e22
            refine pt_d (pt_bipush gx157_89 (fun v23 h23 => ?_))
            exact pt_d (pt_iret gx157_91 ⟨_, rfl, by rw [h23]; exact H⟩)
          · have H := H.2 e22
            refine pt_d (pt_1 (fun n d => r_aloadn gx157_76 rfl) ?_)
            refine pt_d (pt_getR gx157_77 S tr_0_0 ?_)
            refine pt_d (pt_getR gx157_80 S tr_1_10 ?_)
            refine pt_d (pt_1 (fun n d => r_iloadn gx157_83 rfl) ?_)
            refine pt_d (pt_iald (N' := 150) gx157_84 S tl_5 z2 (fun v26 p26 q26 h26 => ?_))
            refine pt_d (pt_iconst gx157_85 (fun v27 h27 => ?_))
            refine pt_d (pt_icmp_eq gx157_86 h26 h27 (fun e28 => ?_) (fun e28 => ?_))
            · have H := H.1 e28
              refine pt_d (pt_1 (fun n d => r_aloadn gx157_92 rfl) ?_)
              refine pt_d (pt_getR gx157_93 S tr_0_2 ?_)
              refine pt_d (pt_getI (B := 1) gx157_96 S (fun v30 h30 => ?_))
              refine pt_d (pt_sipush gx157_99 (fun v31 h31 => ?_))
              refine pt_d (pt_icmp_lt gx157_102 h30 h31 (fun e32 => ?_) (fun e32 => ?_))
              · have H := H.1 e32
                refine pt_d (pt_1 (fun n d => r_aloadn gx157_110 rfl) ?_)
                refine pt_d (pt_getR gx157_111 S tr_0_2 ?_)
                refine pt_d (pt_1 (fun n d => r_iloadn gx157_114 rfl) ?_)
                refine pt_d (pt_1 (fun n d => r_iloadn gx157_115 rfl) ?_)
                refine pt_d (pt_1 (fun n d => r_iloadn gx157_116 rfl) ?_)
                refine pt_d (pt_virt (as := [.int x1, .int x2, .int x3]) (r := []) gx157_117 rfl (show zmt[27]? = some zM27 from rfl) rfl rfl rfl rfl (c_27o S z1 z2 z3) (kqI (fun v34 y34 h_34 h34 P34 => ?_)))
                have S34 := P34.1
                have H := H y34 h_34 P34
                show Pt _ _ _ 120 _ [.int v34] _ _
                exact pt_d (pt_iret gx157_120 ⟨_, rfl, by rw [h34]; exact H⟩)
              · have H := H.2 e32
                refine pt_d (pt_bipush gx157_105 (fun v35 h35 => ?_))
                refine pt_d (pt_1 (fun n d => r_goto gx157_107) ?_)
                exact pt_d (pt_iret gx157_120 ⟨_, rfl, by rw [h35]; exact H⟩)
            · have H := H.2 e28
              refine pt_d (pt_bipush gx157_89 (fun v36 h36 => ?_))
              exact pt_d (pt_iret gx157_91 ⟨_, rfl, by rw [h36]; exact H⟩)
        · have H := H.2 e15
          refine pt_d (pt_1 (fun n d => r_iloadn gx157_44 rfl) ?_)
          refine pt_d (pt_if_eq gx157_45 z3 (fun e37 => ?_) (fun e37 => ?_))
          · have H := H.1 e37
            refine pt_d (pt_1 (fun n d => r_aloadn gx157_50 rfl) ?_)
            refine pt_d (pt_getR gx157_51 S tr_0_0 ?_)
            refine pt_d (pt_1 (fun n d => r_iloadn gx157_54 rfl) ?_)
            refine pt_d (pt_1 (fun n d => r_aloadn gx157_55 rfl) ?_)
            refine pt_d (pt_getR gx157_56 S tr_0_0 ?_)
            refine pt_d (pt_getI (B := 0) gx157_59 S (fun v40 h40 => ?_))
            refine pt_d (pt_1 (fun n d => r_aloadn gx157_62 rfl) ?_)
            refine pt_d (pt_getR gx157_63 S tr_0_0 ?_)
            refine pt_d (pt_getI (B := 0) gx157_66 S (fun v42 h42 => ?_))
            obtain ⟨pr43, H⟩ := H
            refine pt_d (pt_virt (as := [.int x2, .int v40, .int v42]) (r := []) gx157_69 rfl (show zmt[86]? = some zM86 from rfl) rfl rfl rfl rfl (c_86 S z2 h40 h42 pr43) (kqP (fun v43 h43 => ?_)))
            show Pt _ _ _ 72 _ [.int v43] _ _
            refine pt_d (pt_1 (fun n d => r_iloadn gx157_72 rfl) ?_)
            refine pt_d (pt_icmp_ne gx157_73 h43 z1 (fun e44 => ?_) (fun e44 => ?_))
            · have H := H.1 e44
              refine pt_d (pt_bipush gx157_89 (fun v45 h45 => ?_))
              exact pt_d (pt_iret gx157_91 ⟨_, rfl, by rw [h45]; exact H⟩)
            · have H := H.2 e44
              refine pt_d (pt_1 (fun n d => r_aloadn gx157_76 rfl) ?_)
              refine pt_d (pt_getR gx157_77 S tr_0_0 ?_)
              refine pt_d (pt_getR gx157_80 S tr_1_10 ?_)
              refine pt_d (pt_1 (fun n d => r_iloadn gx157_83 rfl) ?_)
              refine pt_d (pt_iald (N' := 150) gx157_84 S tl_5 z2 (fun v48 p48 q48 h48 => ?_))
              refine pt_d (pt_iconst gx157_85 (fun v49 h49 => ?_))
              refine pt_d (pt_icmp_eq gx157_86 h48 h49 (fun e50 => ?_) (fun e50 => ?_))
              · have H := H.1 e50
                refine pt_d (pt_1 (fun n d => r_aloadn gx157_92 rfl) ?_)
                refine pt_d (pt_getR gx157_93 S tr_0_2 ?_)
                refine pt_d (pt_getI (B := 1) gx157_96 S (fun v52 h52 => ?_))
                refine pt_d (pt_sipush gx157_99 (fun v53 h53 => ?_))
                refine pt_d (pt_icmp_lt gx157_102 h52 h53 (fun e54 => ?_) (fun e54 => ?_))
                · have H := H.1 e54
                  refine pt_d (pt_1 (fun n d => r_aloadn gx157_110 rfl) ?_)
                  refine pt_d (pt_getR gx157_111 S tr_0_2 ?_)
                  refine pt_d (pt_1 (fun n d => r_iloadn gx157_114 rfl) ?_)
                  refine pt_d (pt_1 (fun n d => r_iloadn gx157_115 rfl) ?_)
                  refine pt_d (pt_1 (fun n d => r_iloadn gx157_116 rfl) ?_)
                  refine pt_d (pt_virt (as := [.int x1, .int x2, .int x3]) (r := []) gx157_117 rfl (show zmt[27]? = some zM27 from rfl) rfl rfl rfl rfl (c_27o S z1 z2 z3) (kqI (fun v56 y56 h_56 h56 P56 => ?_)))
                  have S56 := P56.1
                  have H := H y56 h_56 P56
                  show Pt _ _ _ 120 _ [.int v56] _ _
                  exact pt_d (pt_iret gx157_120 ⟨_, rfl, by rw [h56]; exact H⟩)
                · have H := H.2 e54
                  refine pt_d (pt_bipush gx157_105 (fun v57 h57 => ?_))
                  refine pt_d (pt_1 (fun n d => r_goto gx157_107) ?_)
                  exact pt_d (pt_iret gx157_120 ⟨_, rfl, by rw [h57]; exact H⟩)
              · have H := H.2 e50
                refine pt_d (pt_bipush gx157_89 (fun v58 h58 => ?_))
                exact pt_d (pt_iret gx157_91 ⟨_, rfl, by rw [h58]; exact H⟩)
          · have H := H.2 e37
            refine pt_d (pt_iconst gx157_48 (fun v59 h59 => ?_))
            exact pt_d (pt_iret gx157_49 ⟨_, rfl, by rw [h59]; exact H⟩)
      · have H := H.2 e10
        refine pt_d (pt_iconst gx157_29 (fun v60 h60 => ?_))
        exact pt_d (pt_iret gx157_30 ⟨_, rfl, by rw [h60]; exact H⟩)
def R157o (V : vS) (f b c r : Int) (V' : vS) : Prop := (¬ ok157 V f b c ∧ r = -1 ∧ V' = V) ∨ (ok157 V f b c ∧ ¬ hd157 V f b ∧ r = -2 ∧ V' = V) ∨ (ok157 V f b c ∧ hd157 V f b ∧ 300 ≤ V 16 1 ∧ r = -3 ∧ V' = V) ∨ (ok157 V f b c ∧ hd157 V f b ∧ V 16 1 < 300 ∧ RClo V f b c r V')
theorem c_157o {n : Nat} {X : aX} {h : aH} {x1 x2 x3 : Int32} {a1 a2 a3 : Int} (S : wS h) (z1 : x1.toInt = a1) (z2 : x2.toInt = a2) (z3 : x3.toInt = a3) (hn : vw h 1 6 ≤ 200) : Pt n X zM157 0 [some (.ref 0), some (.int x1), some (.int x2), some (.int x3)] [] h (qI (fun y h' => R157o (vw h) a1 a2 a3 y (vw h'))) := by
  refine pt_d (e157_0 S z1 z2 z3 ⟨fun e => Or.inl ⟨fun q => e q.1, rfl, rfl⟩, fun e => ⟨fun e2 => Or.inl ⟨fun q => e2 q.2.1, rfl, rfl⟩, fun e2 => ⟨fun e3 p q => ⟨fun e4 => ⟨hn, ⟨fun e5 => Or.inr (Or.inl ⟨⟨e, e2, e3, fun z => absurd z e4⟩, fun z => e5 z.1, rfl, rfl⟩), fun e5 => ⟨fun e6 => ⟨fun e7 y g p => Or.inr (Or.inr (Or.inr ⟨⟨e, e2, e3, fun z => absurd z e4⟩, ⟨e5, e6⟩, e7, p.2⟩)), fun e7 => Or.inr (Or.inr (Or.inl ⟨⟨e, e2, e3, fun z => absurd z e4⟩, ⟨e5, e6⟩, e7, rfl, rfl⟩))⟩, fun e6 => Or.inr (Or.inl ⟨⟨e, e2, e3, fun z => absurd z e4⟩, fun z => e6 z.2, rfl, rfl⟩)⟩⟩⟩, fun e4 => ⟨fun e8 => ⟨hn, ⟨fun e5 => Or.inr (Or.inl ⟨⟨e, e2, e3, fun z => e8⟩, fun z => e5 z.1, rfl, rfl⟩), fun e5 => ⟨fun e6 => ⟨fun e7 y g p => Or.inr (Or.inr (Or.inr ⟨⟨e, e2, e3, fun z => e8⟩, ⟨e5, e6⟩, e7, p.2⟩)), fun e7 => Or.inr (Or.inr (Or.inl ⟨⟨e, e2, e3, fun z => e8⟩, ⟨e5, e6⟩, e7, rfl, rfl⟩))⟩, fun e6 => Or.inr (Or.inl ⟨⟨e, e2, e3, fun z => e8⟩, fun z => e6 z.2, rfl, rfl⟩)⟩⟩⟩, fun e8 => Or.inl ⟨fun q => e8 (q.2.2.2 e4), rfl, rfl⟩⟩⟩, fun e3 => Or.inl ⟨fun q => e3 q.2.2.1, rfl, rfl⟩⟩⟩⟩)
theorem o157 {V V' : vS} {f b c r : Int} (R : R157o V f b c r V') : R157 V f b c r V' := by
  rcases R with z | z | z | ⟨z1, z2, z3, z4⟩
  · exact Or.inl z
  · exact Or.inr (Or.inl z)
  · exact Or.inr (Or.inr (Or.inl z))
  · exact Or.inr (Or.inr (Or.inr ⟨z1, z2, z3, z4.1⟩))
def JDay (V : vS) : Prop := ∀ c, 0 ≤ V 20 c ∧ V 20 c ≤ V 1 0
theorem jo_13 {V V1 : vS} {f b c r : Int} (O : JOrd V) (D : JDay V) (d0 : 0 ≤ V 1 0) (N0 : 0 ≤ V 16 1 ∧ V 16 1 ≤ 300) (R : R157o V f b c r V1) : JOrd V1 ∧ JDay V1 := by
  rcases R with ⟨-, -, rfl⟩ | ⟨-, -, -, rfl⟩ | ⟨-, -, -, -, rfl⟩ | ⟨z1, z2, z3, z4, z5⟩
  · exact ⟨O, D⟩
  · exact ⟨O, D⟩
  · exact ⟨O, D⟩
  · rcases z4 with ⟨w, -⟩ | ⟨w0, w1, -, e⟩
    · omega
    · rw [w32_id (by omega) (by omega)] at e
      have e' : ∀ (c' : Nat) j, c' ≠ 21 → V1 c' j = up (clmV V f b c) 16 1 (V 16 1 + 1) c' j := e
      refine ⟨ord_i O N0.1 (fun d a z => (D d).2) e' (z5 z3), fun d => ?_⟩
      have t1 : V1 1 0 = V 1 0 := by
        rw [e' 1 0 (by decide), up_c (by decide)]
        unfold clmV
        rw [up_c (by decide), up_c (by decide), up_c (by decide), up_c (by decide)]
      have t20 : V1 20 d = if d = V 16 1 then V 1 0 else V 20 d := by
        rw [e' 20 d (by decide), up_c (by decide)]
        unfold clmV
        rw [up_p, up_c (by decide), up_c (by decide), up_c (by decide)]
      rw [t1, t20]
      split
      · exact ⟨d0, Int.le_refl _⟩
      · exact D d


-- ===== what is seen of fields =====
theorem d247_0 {n : Nat} {X : aX} {h : aH} {P : Int → aH → Prop} {x1 x2 x3 x4 : Int32} {a1 a2 a3 a4 : Int} (S : wS h) (z1 : x1.toInt = a1) (z2 : x2.toInt = a2) (z3 : x3.toInt = a3) (z4 : x4.toInt = a4) (H : ((¬ (mField (vw h) a1) → P (-1) h) ∧ ((mField (vw h) a1) → ((¬ (0 ≤ a2 ∧ a2 ≤ 9) → P (-1) h) ∧ ((0 ≤ a2 ∧ a2 ≤ 9) → (((0 ≤ a3 ∧ a3 ≤ 5) → (0 ≤ a3 → a3 < 6 → ((vw h 142 a3 = (-1) → ((vw h 142 a3 ≠ (-1) → (∀ (w5 : Int32) (w6 : Int32) (w7 : Int32) (u8_ : Option Value) (u9_ : Option Value), w5.toInt = 0 → w6.toInt = 0 → w7.toInt = 0 → Pt n X zM247 71 [some (.ref 72), some (.int x1), some (.int x2), some (.int x3), some (.int x4), some (.int w5), some (.int w6), some (.int w7), u8_, u9_, none] [] h (qI P))) ∧ (vw h 142 a3 = (-1) → (∀ (w5 : Int32) (w6 : Int32) (w7 : Int32) (u8_ : Option Value) (u9_ : Option Value), w5.toInt = 0 → w6.toInt = 1 → w7.toInt = 0 → Pt n X zM247 71 [some (.ref 72), some (.int x1), some (.int x2), some (.int x3), some (.int x4), some (.int w5), some (.int w6), some (.int w7), u8_, u9_, none] [] h (qI P))))) ∧ (vw h 142 a3 ≠ (-1) → ((vw h 142 a3 = (-2) → ((vw h 142 a3 ≠ (-1) → (∀ (w5 : Int32) (w6 : Int32) (w7 : Int32) (u8_ : Option Value) (u9_ : Option Value), w5.toInt = 0 → w6.toInt = 0 → w7.toInt = 0 → Pt n X zM247 71 [some (.ref 72), some (.int x1), some (.int x2), some (.int x3), some (.int x4), some (.int w5), some (.int w6), some (.int w7), u8_, u9_, none] [] h (qI P))) ∧ (vw h 142 a3 = (-1) → (∀ (w5 : Int32) (w6 : Int32) (w7 : Int32) (u8_ : Option Value) (u9_ : Option Value), w5.toInt = 0 → w6.toInt = 1 → w7.toInt = 0 → Pt n X zM247 71 [some (.ref 72), some (.int x1), some (.int x2), some (.int x3), some (.int x4), some (.int w5), some (.int w6), some (.int w7), u8_, u9_, none] [] h (qI P))))) ∧ (vw h 142 a3 ≠ (-2) → P (-12) h)))))) ∧ (¬ (0 ≤ a3 ∧ a3 ≤ 5) → P (-1) h))))))) : Pt (n + 1) X zM247 0 [some (.ref 72), some (.int x1), some (.int x2), some (.int x3), some (.int x4), none, none, none, none, none, none] [] h (qI P) := by
  refine pt_1 (fun n d => r_aloadn gx247_0 rfl) ?_
  refine pt_d (pt_1 (fun n d => r_iloadn gx247_1 rfl) ?_)
  refine pt_d (pt_virt (as := [.int x1]) (r := []) gx247_2 rfl (show zmt[203]? = some zM203 from rfl) rfl rfl rfl rfl (c_203 S z1) (kqP (fun v1 h1 => ?_)))
  show Pt _ _ _ 5 _ [.int v1] _ _
  refine pt_d (pt_ifB_eq gx247_5 h1 (fun e2 => ?_) (fun e2 => ?_))
  · have H := H.1 e2
    refine pt_d (pt_iconst gx247_22 (fun v3 h3 => ?_))
    exact pt_d (pt_iret gx247_23 ⟨_, rfl, by rw [h3]; exact H⟩)
  · have H := H.2 e2
    refine pt_d (pt_1 (fun n d => r_iloadn gx247_8 rfl) ?_)
    refine pt_d (pt_stat (as := [.int x2]) (r := []) gx247_9 rfl (show zmt[198]? = some zM198 from rfl) rfl rfl rfl rfl (c_198 S z2) (kqP (fun v4 h4 => ?_)))
    show Pt _ _ _ 12 _ [.int v4] _ _
    refine pt_d (pt_ifB_eq gx247_12 h4 (fun e5 => ?_) (fun e5 => ?_))
    · have H := H.1 e5
      refine pt_d (pt_iconst gx247_22 (fun v6 h6 => ?_))
      exact pt_d (pt_iret gx247_23 ⟨_, rfl, by rw [h6]; exact H⟩)
    · have H := H.2 e5
      refine pt_d (pt_1 (fun n d => r_iloadn gx247_15 rfl) ?_)
      refine pt_d (pt_stat (as := [.int x3]) (r := []) gx247_16 rfl (show zmt[318]? = some zM318 from rfl) rfl rfl rfl rfl (c_318 S z3) (kqP (fun v7 h7 => ?_)))
      show Pt _ _ _ 19 _ [.int v7] _ _
      refine pt_d (pt_ifB_ne gx247_19 h7 (fun e8 => ?_) (fun e8 => ?_))
      · have H := H.1 e8
        refine pt_d (pt_1 (fun n d => r_aloadn gx247_24 rfl) ?_)
        refine pt_d (pt_getR gx247_25 S tr_72_97 ?_)
        refine pt_d (pt_1 (fun n d => r_iloadn gx247_28 rfl) ?_)
        refine pt_d (pt_iald (N' := 6) gx247_29 S tl_142 z3 (fun v10 p10 q10 h10 => ?_))
        have H := H p10 q10
        refine pt_d (pt_iconst gx247_30 (fun v11 h11 => ?_))
        refine pt_d (pt_icmp_eq gx247_31 h10 h11 (fun e12 => ?_) (fun e12 => ?_))
        · have H := H.1 e12
          refine pt_d (pt_iconst gx247_48 (fun v13 h13 => ?_))
          refine pt_d (pt_1 (fun n d => r_istore (L' := [some (.ref 72), some (.int x1), some (.int x2), some (.int x3), some (.int x4), some (.int v13), none, none, none, none, none]) gx247_49 rfl rfl) ?_)
          refine pt_d (pt_1 (fun n d => r_aloadn gx247_51 rfl) ?_)
          refine pt_d (pt_getR gx247_52 S tr_72_97 ?_)
          refine pt_d (pt_1 (fun n d => r_iloadn gx247_55 rfl) ?_)
          refine pt_d (pt_iald (N' := 6) gx247_56 S tl_142 z3 (fun v15 p15 q15 h15 => ?_))
          refine pt_d (pt_iconst gx247_57 (fun v16 h16 => ?_))
          refine pt_d (pt_icmp_ne gx247_58 h15 h16 (fun e17 => ?_) (fun e17 => ?_))
          · have H := H.1 e17
            refine pt_d (pt_iconst gx247_65 (fun v18 h18 => ?_))
            refine pt_d (pt_1 (fun n d => r_istore (L' := [some (.ref 72), some (.int x1), some (.int x2), some (.int x3), some (.int x4), some (.int v13), some (.int v18), none, none, none, none]) gx247_66 rfl rfl) ?_)
            refine pt_d (pt_iconst gx247_68 (fun v19 h19 => ?_))
            refine pt_d (pt_1 (fun n d => r_istore (L' := [some (.ref 72), some (.int x1), some (.int x2), some (.int x3), some (.int x4), some (.int v13), some (.int v18), some (.int v19), none, none, none]) gx247_69 rfl rfl) ?_)
            exact H v13 v18 v19 _ _ h13 h18 h19
          · have H := H.2 e17
            refine pt_d (pt_iconst gx247_61 (fun v20 h20 => ?_))
            refine pt_d (pt_1 (fun n d => r_goto gx247_62) ?_)
            refine pt_d (pt_1 (fun n d => r_istore (L' := [some (.ref 72), some (.int x1), some (.int x2), some (.int x3), some (.int x4), some (.int v13), some (.int v20), none, none, none, none]) gx247_66 rfl rfl) ?_)
            refine pt_d (pt_iconst gx247_68 (fun v21 h21 => ?_))
            refine pt_d (pt_1 (fun n d => r_istore (L' := [some (.ref 72), some (.int x1), some (.int x2), some (.int x3), some (.int x4), some (.int v13), some (.int v20), some (.int v21), none, none, none]) gx247_69 rfl rfl) ?_)
            exact H v13 v20 v21 _ _ h13 h20 h21
        · have H := H.2 e12
          refine pt_d (pt_1 (fun n d => r_aloadn gx247_34 rfl) ?_)
          refine pt_d (pt_getR gx247_35 S tr_72_97 ?_)
          refine pt_d (pt_1 (fun n d => r_iloadn gx247_38 rfl) ?_)
          refine pt_d (pt_iald (N' := 6) gx247_39 S tl_142 z3 (fun v23 p23 q23 h23 => ?_))
          refine pt_d (pt_bipush gx247_40 (fun v24 h24 => ?_))
          refine pt_d (pt_icmp_eq gx247_42 h23 h24 (fun e25 => ?_) (fun e25 => ?_))
          · have H := H.1 e25
            refine pt_d (pt_iconst gx247_48 (fun v26 h26 => ?_))
            refine pt_d (pt_1 (fun n d => r_istore (L' := [some (.ref 72), some (.int x1), some (.int x2), some (.int x3), some (.int x4), some (.int v26), none, none, none, none, none]) gx247_49 rfl rfl) ?_)
            refine pt_d (pt_1 (fun n d => r_aloadn gx247_51 rfl) ?_)
            refine pt_d (pt_getR gx247_52 S tr_72_97 ?_)
            refine pt_d (pt_1 (fun n d => r_iloadn gx247_55 rfl) ?_)
            refine pt_d (pt_iald (N' := 6) gx247_56 S tl_142 z3 (fun v28 p28 q28 h28 => ?_))
            refine pt_d (pt_iconst gx247_57 (fun v29 h29 => ?_))
            refine pt_d (pt_icmp_ne gx247_58 h28 h29 (fun e30 => ?_) (fun e30 => ?_))
            · have H := H.1 e30
              refine pt_d (pt_iconst gx247_65 (fun v31 h31 => ?_))
              refine pt_d (pt_1 (fun n d => r_istore (L' := [some (.ref 72), some (.int x1), some (.int x2), some (.int x3), some (.int x4), some (.int v26), some (.int v31), none, none, none, none]) gx247_66 rfl rfl) ?_)
              refine pt_d (pt_iconst gx247_68 (fun v32 h32 => ?_))
              refine pt_d (pt_1 (fun n d => r_istore (L' := [some (.ref 72), some (.int x1), some (.int x2), some (.int x3), some (.int x4), some (.int v26), some (.int v31), some (.int v32), none, none, none]) gx247_69 rfl rfl) ?_)
              exact H v26 v31 v32 _ _ h26 h31 h32
            · have H := H.2 e30
              refine pt_d (pt_iconst gx247_61 (fun v33 h33 => ?_))
              refine pt_d (pt_1 (fun n d => r_goto gx247_62) ?_)
              refine pt_d (pt_1 (fun n d => r_istore (L' := [some (.ref 72), some (.int x1), some (.int x2), some (.int x3), some (.int x4), some (.int v26), some (.int v33), none, none, none, none]) gx247_66 rfl rfl) ?_)
              refine pt_d (pt_iconst gx247_68 (fun v34 h34 => ?_))
              refine pt_d (pt_1 (fun n d => r_istore (L' := [some (.ref 72), some (.int x1), some (.int x2), some (.int x3), some (.int x4), some (.int v26), some (.int v33), some (.int v34), none, none, none]) gx247_69 rfl rfl) ?_)
              exact H v26 v33 v34 _ _ h26 h33 h34
          · have H := H.2 e25
            refine pt_d (pt_bipush gx247_45 (fun v35 h35 => ?_))
            exact pt_d (pt_iret gx247_47 ⟨_, rfl, by rw [h35]; exact H⟩)
      · have H := H.2 e8
        refine pt_d (pt_iconst gx247_22 (fun v36 h36 => ?_))
        exact pt_d (pt_iret gx247_23 ⟨_, rfl, by rw [h36]; exact H⟩)
theorem d247_71 {n : Nat} {X : aX} {h : aH} {P : Int → aH → Prop} {x1 x2 x3 x4 x5 x6 x7 : Int32} {a1 a2 a3 a4 a5 a6 a7 : Int} {u8 u9 : Option Value} (S : wS h) (z1 : x1.toInt = a1) (z2 : x2.toInt = a2) (z3 : x3.toInt = a3) (z4 : x4.toInt = a4) (z5 : x5.toInt = a5) (z6 : x6.toInt = a6) (z7 : x7.toInt = a7) (H : ((6 ≤ a7 → P a5 h) ∧ (a7 < 6 → ((a6 ≠ 0 → (0 ≤ w32 ((w32 ((w32 (60 * a1)) + (w32 (6 * a2)))) + a7) → w32 ((w32 ((w32 (60 * a1)) + (w32 (6 * a2)))) + a7) < 9000 → ((bAnd 0 1 ≠ 0 → (0 ≤ w32 ((w32 (60 * a3)) + (w32 (w64 (a4 + a7)))) → w32 ((w32 (60 * a3)) + (w32 (w64 (a4 + a7)))) < 360 → ∀ h_29 : aH, wS h_29 → vw h_29 = up (up (vw h) 114 (w32 ((w32 ((w32 (60 * a1)) + (w32 (6 * a2)))) + a7)) (bAnd 0 1)) 113 (w32 ((w32 ((w32 (60 * a1)) + (w32 (6 * a2)))) + a7)) (w32 (vw h 144 (w32 ((w32 (60 * a3)) + (w32 (w64 (a4 + a7))))))) → (∀ (w5 : Int32) (w6 : Int32) (w7 : Int32) (u8_ : Option Value) (u9_ : Option Value), w5.toInt = w32 (a5 + 1) → w6.toInt = 1 → w7.toInt = w32 (a7 + 1) → Pt n X zM247 71 [some (.ref 72), some (.int x1), some (.int x2), some (.int x3), some (.int x4), some (.int w5), some (.int w6), some (.int w7), u8_, u9_, none] [] h_29 (qI P)))) ∧ (bAnd 0 1 = 0 → ∀ h_17 : aH, wS h_17 → vw h_17 = up (vw h) 114 (w32 ((w32 ((w32 (60 * a1)) + (w32 (6 * a2)))) + a7)) (bAnd 0 1) → (∀ (w6 : Int32) (w7 : Int32) (u8_ : Option Value) (u9_ : Option Value), w6.toInt = 1 → w7.toInt = w32 (a7 + 1) → Pt n X zM247 71 [some (.ref 72), some (.int x1), some (.int x2), some (.int x3), some (.int x4), some (.int x5), some (.int w6), some (.int w7), u8_, u9_, none] [] h_17 (qI P)))))) ∧ (a6 = 0 → ((w64 (a4 + a7) < 0 → (0 ≤ w32 ((w32 ((w32 (60 * a1)) + (w32 (6 * a2)))) + a7) → w32 ((w32 ((w32 (60 * a1)) + (w32 (6 * a2)))) + a7) < 9000 → ((bAnd 0 1 ≠ 0 → (0 ≤ w32 ((w32 (60 * a3)) + (w32 (w64 (a4 + a7)))) → w32 ((w32 (60 * a3)) + (w32 (w64 (a4 + a7)))) < 360 → ∀ h_51 : aH, wS h_51 → vw h_51 = up (up (vw h) 114 (w32 ((w32 ((w32 (60 * a1)) + (w32 (6 * a2)))) + a7)) (bAnd 0 1)) 113 (w32 ((w32 ((w32 (60 * a1)) + (w32 (6 * a2)))) + a7)) (w32 (vw h 144 (w32 ((w32 (60 * a3)) + (w32 (w64 (a4 + a7))))))) → (∀ (w5 : Int32) (w6 : Int32) (w7 : Int32) (u8_ : Option Value) (u9_ : Option Value), w5.toInt = w32 (a5 + 1) → w6.toInt = 1 → w7.toInt = w32 (a7 + 1) → Pt n X zM247 71 [some (.ref 72), some (.int x1), some (.int x2), some (.int x3), some (.int x4), some (.int w5), some (.int w6), some (.int w7), u8_, u9_, none] [] h_51 (qI P)))) ∧ (bAnd 0 1 = 0 → ∀ h_39 : aH, wS h_39 → vw h_39 = up (vw h) 114 (w32 ((w32 ((w32 (60 * a1)) + (w32 (6 * a2)))) + a7)) (bAnd 0 1) → (∀ (w6 : Int32) (w7 : Int32) (u8_ : Option Value) (u9_ : Option Value), w6.toInt = 1 → w7.toInt = w32 (a7 + 1) → Pt n X zM247 71 [some (.ref 72), some (.int x1), some (.int x2), some (.int x3), some (.int x4), some (.int x5), some (.int w6), some (.int w7), u8_, u9_, none] [] h_39 (qI P)))))) ∧ (0 ≤ w64 (a4 + a7) → (0 ≤ a3 → a3 < 6 → ((w64 (a4 + a7) < vw h 143 a3 → (0 ≤ w32 ((w32 (60 * a3)) + (w32 (w64 (a4 + a7)))) → w32 ((w32 (60 * a3)) + (w32 (w64 (a4 + a7)))) < 360 → ((vw h 144 (w32 ((w32 (60 * a3)) + (w32 (w64 (a4 + a7))))) = vw h 72 52 → (0 ≤ w32 ((w32 ((w32 (60 * a1)) + (w32 (6 * a2)))) + a7) → w32 ((w32 ((w32 (60 * a1)) + (w32 (6 * a2)))) + a7) < 9000 → ((bAnd 0 1 ≠ 0 → ∀ h_84 : aH, wS h_84 → vw h_84 = up (up (vw h) 114 (w32 ((w32 ((w32 (60 * a1)) + (w32 (6 * a2)))) + a7)) (bAnd 0 1)) 113 (w32 ((w32 ((w32 (60 * a1)) + (w32 (6 * a2)))) + a7)) (w32 (vw h 144 (w32 ((w32 (60 * a3)) + (w32 (w64 (a4 + a7))))))) → (∀ (w5 : Int32) (w6 : Int32) (w7 : Int32) (u8_ : Option Value) (u9_ : Option Value), w5.toInt = w32 (a5 + 1) → w6.toInt = 0 → w7.toInt = w32 (a7 + 1) → Pt n X zM247 71 [some (.ref 72), some (.int x1), some (.int x2), some (.int x3), some (.int x4), some (.int w5), some (.int w6), some (.int w7), u8_, u9_, none] [] h_84 (qI P))) ∧ (bAnd 0 1 = 0 → ∀ h_72 : aH, wS h_72 → vw h_72 = up (vw h) 114 (w32 ((w32 ((w32 (60 * a1)) + (w32 (6 * a2)))) + a7)) (bAnd 0 1) → (∀ (w6 : Int32) (w7 : Int32) (u8_ : Option Value) (u9_ : Option Value), w6.toInt = 0 → w7.toInt = w32 (a7 + 1) → Pt n X zM247 71 [some (.ref 72), some (.int x1), some (.int x2), some (.int x3), some (.int x4), some (.int x5), some (.int w6), some (.int w7), u8_, u9_, none] [] h_72 (qI P)))))) ∧ (vw h 144 (w32 ((w32 (60 * a3)) + (w32 (w64 (a4 + a7))))) ≠ vw h 72 52 → (0 ≤ w32 ((w32 ((w32 (60 * a1)) + (w32 (6 * a2)))) + a7) → w32 ((w32 ((w32 (60 * a1)) + (w32 (6 * a2)))) + a7) < 9000 → ((bAnd 1 1 ≠ 0 → ∀ h_101 : aH, wS h_101 → vw h_101 = up (up (vw h) 114 (w32 ((w32 ((w32 (60 * a1)) + (w32 (6 * a2)))) + a7)) (bAnd 1 1)) 113 (w32 ((w32 ((w32 (60 * a1)) + (w32 (6 * a2)))) + a7)) (w32 (vw h 144 (w32 ((w32 (60 * a3)) + (w32 (w64 (a4 + a7))))))) → (∀ (w5 : Int32) (w6 : Int32) (w7 : Int32) (u8_ : Option Value) (u9_ : Option Value), w5.toInt = w32 (a5 + 1) → w6.toInt = 0 → w7.toInt = w32 (a7 + 1) → Pt n X zM247 71 [some (.ref 72), some (.int x1), some (.int x2), some (.int x3), some (.int x4), some (.int w5), some (.int w6), some (.int w7), u8_, u9_, none] [] h_101 (qI P))) ∧ (bAnd 1 1 = 0 → ∀ h_89 : aH, wS h_89 → vw h_89 = up (vw h) 114 (w32 ((w32 ((w32 (60 * a1)) + (w32 (6 * a2)))) + a7)) (bAnd 1 1) → (∀ (w6 : Int32) (w7 : Int32) (u8_ : Option Value) (u9_ : Option Value), w6.toInt = 0 → w7.toInt = w32 (a7 + 1) → Pt n X zM247 71 [some (.ref 72), some (.int x1), some (.int x2), some (.int x3), some (.int x4), some (.int x5), some (.int w6), some (.int w7), u8_, u9_, none] [] h_89 (qI P))))))))) ∧ (vw h 143 a3 ≤ w64 (a4 + a7) → (0 ≤ w32 ((w32 ((w32 (60 * a1)) + (w32 (6 * a2)))) + a7) → w32 ((w32 ((w32 (60 * a1)) + (w32 (6 * a2)))) + a7) < 9000 → ((bAnd 0 1 ≠ 0 → (0 ≤ w32 ((w32 (60 * a3)) + (w32 (w64 (a4 + a7)))) → w32 ((w32 (60 * a3)) + (w32 (w64 (a4 + a7)))) < 360 → ∀ h_121 : aH, wS h_121 → vw h_121 = up (up (vw h) 114 (w32 ((w32 ((w32 (60 * a1)) + (w32 (6 * a2)))) + a7)) (bAnd 0 1)) 113 (w32 ((w32 ((w32 (60 * a1)) + (w32 (6 * a2)))) + a7)) (w32 (vw h 144 (w32 ((w32 (60 * a3)) + (w32 (w64 (a4 + a7))))))) → (∀ (w5 : Int32) (w6 : Int32) (w7 : Int32) (u8_ : Option Value) (u9_ : Option Value), w5.toInt = w32 (a5 + 1) → w6.toInt = 1 → w7.toInt = w32 (a7 + 1) → Pt n X zM247 71 [some (.ref 72), some (.int x1), some (.int x2), some (.int x3), some (.int x4), some (.int w5), some (.int w6), some (.int w7), u8_, u9_, none] [] h_121 (qI P)))) ∧ (bAnd 0 1 = 0 → ∀ h_109 : aH, wS h_109 → vw h_109 = up (vw h) 114 (w32 ((w32 ((w32 (60 * a1)) + (w32 (6 * a2)))) + a7)) (bAnd 0 1) → (∀ (w6 : Int32) (w7 : Int32) (u8_ : Option Value) (u9_ : Option Value), w6.toInt = 1 → w7.toInt = w32 (a7 + 1) → Pt n X zM247 71 [some (.ref 72), some (.int x1), some (.int x2), some (.int x3), some (.int x4), some (.int x5), some (.int w6), some (.int w7), u8_, u9_, none] [] h_109 (qI P))))))))))))))) : Pt (n + 1) X zM247 71 [some (.ref 72), some (.int x1), some (.int x2), some (.int x3), some (.int x4), some (.int x5), some (.int x6), some (.int x7), u8, u9, none] [] h (qI P) := by
  refine pt_1 (fun n d => r_iload gx247_71 rfl) ?_
  refine pt_d (pt_bipush gx247_73 (fun v1 h1 => ?_))
  refine pt_d (pt_icmp_ge gx247_75 z7 h1 (fun e2 => ?_) (fun e2 => ?_))
  · have H := H.1 e2
    refine pt_d (pt_1 (fun n d => r_iload gx247_215 rfl) ?_)
    exact pt_d (pt_iret gx247_217 ⟨_, rfl, by rw [z5]; exact H⟩)
  · have H := H.2 e2
    refine pt_d (pt_bipush gx247_78 (fun v3 h3 => ?_))
    refine pt_d (pt_1 (fun n d => r_iloadn gx247_80 rfl) ?_)
    refine pt_d (pt_imul gx247_81 h3 z1 (fun v4 h4 => ?_))
    refine pt_d (pt_bipush gx247_82 (fun v5 h5 => ?_))
    refine pt_d (pt_1 (fun n d => r_iloadn gx247_84 rfl) ?_)
    refine pt_d (pt_imul gx247_85 h5 z2 (fun v6 h6 => ?_))
    refine pt_d (pt_iadd gx247_86 h4 h6 (fun v7 h7 => ?_))
    refine pt_d (pt_1 (fun n d => r_iload gx247_87 rfl) ?_)
    refine pt_d (pt_iadd gx247_89 h7 z7 (fun v8 h8 => ?_))
    refine pt_d (pt_1 (fun n d => r_istore (L' := [some (.ref 72), some (.int x1), some (.int x2), some (.int x3), some (.int x4), some (.int x5), some (.int x6), some (.int x7), some (.int v8), u9, none]) gx247_90 rfl rfl) ?_)
    refine pt_d (pt_1 (fun n d => r_iload gx247_92 rfl) ?_)
    refine pt_d (pt_i2l gx247_94 z4 (fun v9 h9 => ?_))
    refine pt_d (pt_1 (fun n d => r_iload gx247_95 rfl) ?_)
    refine pt_d (pt_i2l gx247_97 z7 (fun v10 h10 => ?_))
    refine pt_d (pt_ladd gx247_98 h9 h10 (fun v11 h11 => ?_))
    refine pt_d (pt_1 (fun n d => r_lstore (L' := [some (.ref 72), some (.int x1), some (.int x2), some (.int x3), some (.int x4), some (.int x5), some (.int x6), some (.int x7), some (.int v8), some (.long v11), none]) gx247_99 rfl rfl) ?_)
    refine pt_d (pt_1 (fun n d => r_iload gx247_101 rfl) ?_)
    refine pt_d (pt_if_ne gx247_103 z6 (fun e12 => ?_) (fun e12 => ?_))
    · have H := H.1 e12
      refine pt_d (pt_iconst gx247_126 (fun v13 h13 => ?_))
      refine pt_d (pt_1 (fun n d => r_goto gx247_127) ?_)
      refine pt_d (pt_1 (fun n d => r_istore (L' := [some (.ref 72), some (.int x1), some (.int x2), some (.int x3), some (.int x4), some (.int x5), some (.int v13), some (.int x7), some (.int v8), some (.long v11), none]) gx247_131 rfl rfl) ?_)
      refine pt_d (pt_1 (fun n d => r_aloadn gx247_133 rfl) ?_)
      refine pt_d (pt_getR gx247_134 S tr_72_51 ?_)
      refine pt_d (pt_1 (fun n d => r_iload gx247_137 rfl) ?_)
      refine pt_d (pt_1 (fun n d => r_iload gx247_139 rfl) ?_)
      refine pt_d (pt_if_ne gx247_141 h13 (fun e15 => ?_) (fun e15 => absurd e15 (by decide)))
      refine pt_d (pt_iconst gx247_170 (fun v16 h16 => ?_))
      refine pt_d (pt_zast (N' := 9000) gx247_171 S tl_114 h8 h16 (fun h_17 S17 p17 q17 e17 => ?_))
      have H := H p17 q17
      refine pt_d (pt_1 (fun n d => r_aloadn gx247_172 rfl) ?_)
      refine pt_d (pt_getR gx247_173 S17 tr_72_51 ?_)
      refine pt_d (pt_1 (fun n d => r_iload gx247_176 rfl) ?_)
      refine pt_d (pt_zald (N' := 9000) gx247_178 S17 tl_114 h8 (fun v19 p19 q19 h19 => ?_))
      have h19 : v19.toInt = bAnd 0 1 := by rw [h19, e17, up_s]
      refine pt_d (pt_if_ne gx247_179 h19 (fun e20 => ?_) (fun e20 => ?_))
      · have H := H.1 e20
        refine pt_d (pt_1 (fun n d => r_aloadn gx247_185 rfl) ?_)
        refine pt_d (pt_getR gx247_186 S17 tr_72_50 ?_)
        refine pt_d (pt_1 (fun n d => r_iload gx247_189 rfl) ?_)
        refine pt_d (pt_1 (fun n d => r_aloadn gx247_191 rfl) ?_)
        refine pt_d (pt_getR gx247_192 S17 tr_72_99 ?_)
        refine pt_d (pt_bipush gx247_195 (fun v23 h23 => ?_))
        refine pt_d (pt_1 (fun n d => r_iloadn gx247_197 rfl) ?_)
        refine pt_d (pt_imul gx247_198 h23 z3 (fun v24 h24 => ?_))
        refine pt_d (pt_1 (fun n d => r_lload gx247_199 rfl) ?_)
        refine pt_d (pt_l2i gx247_201 h11 (fun v25 h25 => ?_))
        refine pt_d (pt_iadd gx247_202 h24 h25 (fun v26 h26 => ?_))
        refine pt_d (pt_lald (N' := 360) gx247_203 S17 tl_144 h26 (fun v27 p27 q27 h27 => ?_))
        have H := H p27 q27
        have h27 : v27.toInt = vw h 144 (w32 ((w32 (60 * a3)) + (w32 (w64 (a4 + a7))))) := by rw [h27, e17, up_c (by decide)]
        refine pt_d (pt_l2i gx247_204 h27 (fun v28 h28 => ?_))
        refine pt_d (pt_iast (N' := 9000) gx247_205 S17 tl_113 h8 h28 (fun h_29 S29 p29 q29 e29 => ?_))
        refine pt_d (pt_iinc (c := 1) gx247_206 rfl z5 (fun v30 h30 => ?_))
        show Pt _ _ _ _ [some (.ref 72), some (.int x1), some (.int x2), some (.int x3), some (.int x4), some (.int v30), some (.int v13), some (.int x7), some (.int v8), some (.long v11), none] [] _ _
        refine pt_d (pt_iinc (c := 1) gx247_209 rfl z7 (fun v31 h31 => ?_))
        show Pt _ _ _ _ [some (.ref 72), some (.int x1), some (.int x2), some (.int x3), some (.int x4), some (.int v30), some (.int v13), some (.int v31), some (.int v8), some (.long v11), none] [] _ _
        refine pt_d (pt_1 (fun n d => r_goto gx247_212) ?_)
        have H := H h_29 S29 (by rw [e29, e17])
        exact H v30 v13 v31 _ _ h30 h13 h31
      · have H := H.2 e20
        refine pt_d (pt_1 (fun n d => r_goto gx247_182) ?_)
        refine pt_d (pt_iinc (c := 1) gx247_209 rfl z7 (fun v32 h32 => ?_))
        show Pt _ _ _ _ [some (.ref 72), some (.int x1), some (.int x2), some (.int x3), some (.int x4), some (.int x5), some (.int v13), some (.int v32), some (.int v8), some (.long v11), none] [] _ _
        refine pt_d (pt_1 (fun n d => r_goto gx247_212) ?_)
        have H := H h_17 S17 (by rw [e17])
        exact H v13 v32 _ _ h13 h32
    · have H := H.2 e12
      refine pt_d (pt_1 (fun n d => r_lload gx247_106 rfl) ?_)
      refine pt_d (pt_lconst (c := 0) gx247_108 rfl (fun v33 h33 => ?_))
      refine pt_d (pt_lcmp_lt gx247_109 gx247_110 h11 h33 (fun e34 => ?_) (fun e34 => ?_))
      · have H := H.1 e34
        refine pt_d (pt_iconst gx247_126 (fun v35 h35 => ?_))
        refine pt_d (pt_1 (fun n d => r_goto gx247_127) ?_)
        refine pt_d (pt_1 (fun n d => r_istore (L' := [some (.ref 72), some (.int x1), some (.int x2), some (.int x3), some (.int x4), some (.int x5), some (.int v35), some (.int x7), some (.int v8), some (.long v11), none]) gx247_131 rfl rfl) ?_)
        refine pt_d (pt_1 (fun n d => r_aloadn gx247_133 rfl) ?_)
        refine pt_d (pt_getR gx247_134 S tr_72_51 ?_)
        refine pt_d (pt_1 (fun n d => r_iload gx247_137 rfl) ?_)
        refine pt_d (pt_1 (fun n d => r_iload gx247_139 rfl) ?_)
        refine pt_d (pt_if_ne gx247_141 h35 (fun e37 => ?_) (fun e37 => absurd e37 (by decide)))
        refine pt_d (pt_iconst gx247_170 (fun v38 h38 => ?_))
        refine pt_d (pt_zast (N' := 9000) gx247_171 S tl_114 h8 h38 (fun h_39 S39 p39 q39 e39 => ?_))
        have H := H p39 q39
        refine pt_d (pt_1 (fun n d => r_aloadn gx247_172 rfl) ?_)
        refine pt_d (pt_getR gx247_173 S39 tr_72_51 ?_)
        refine pt_d (pt_1 (fun n d => r_iload gx247_176 rfl) ?_)
        refine pt_d (pt_zald (N' := 9000) gx247_178 S39 tl_114 h8 (fun v41 p41 q41 h41 => ?_))
        have h41 : v41.toInt = bAnd 0 1 := by rw [h41, e39, up_s]
        refine pt_d (pt_if_ne gx247_179 h41 (fun e42 => ?_) (fun e42 => ?_))
        · have H := H.1 e42
          refine pt_d (pt_1 (fun n d => r_aloadn gx247_185 rfl) ?_)
          refine pt_d (pt_getR gx247_186 S39 tr_72_50 ?_)
          refine pt_d (pt_1 (fun n d => r_iload gx247_189 rfl) ?_)
          refine pt_d (pt_1 (fun n d => r_aloadn gx247_191 rfl) ?_)
          refine pt_d (pt_getR gx247_192 S39 tr_72_99 ?_)
          refine pt_d (pt_bipush gx247_195 (fun v45 h45 => ?_))
          refine pt_d (pt_1 (fun n d => r_iloadn gx247_197 rfl) ?_)
          refine pt_d (pt_imul gx247_198 h45 z3 (fun v46 h46 => ?_))
          refine pt_d (pt_1 (fun n d => r_lload gx247_199 rfl) ?_)
          refine pt_d (pt_l2i gx247_201 h11 (fun v47 h47 => ?_))
          refine pt_d (pt_iadd gx247_202 h46 h47 (fun v48 h48 => ?_))
          refine pt_d (pt_lald (N' := 360) gx247_203 S39 tl_144 h48 (fun v49 p49 q49 h49 => ?_))
          have H := H p49 q49
          have h49 : v49.toInt = vw h 144 (w32 ((w32 (60 * a3)) + (w32 (w64 (a4 + a7))))) := by rw [h49, e39, up_c (by decide)]
          refine pt_d (pt_l2i gx247_204 h49 (fun v50 h50 => ?_))
          refine pt_d (pt_iast (N' := 9000) gx247_205 S39 tl_113 h8 h50 (fun h_51 S51 p51 q51 e51 => ?_))
          refine pt_d (pt_iinc (c := 1) gx247_206 rfl z5 (fun v52 h52 => ?_))
          show Pt _ _ _ _ [some (.ref 72), some (.int x1), some (.int x2), some (.int x3), some (.int x4), some (.int v52), some (.int v35), some (.int x7), some (.int v8), some (.long v11), none] [] _ _
          refine pt_d (pt_iinc (c := 1) gx247_209 rfl z7 (fun v53 h53 => ?_))
          show Pt _ _ _ _ [some (.ref 72), some (.int x1), some (.int x2), some (.int x3), some (.int x4), some (.int v52), some (.int v35), some (.int v53), some (.int v8), some (.long v11), none] [] _ _
          refine pt_d (pt_1 (fun n d => r_goto gx247_212) ?_)
          have H := H h_51 S51 (by rw [e51, e39])
          exact H v52 v35 v53 _ _ h52 h35 h53
        · have H := H.2 e42
          refine pt_d (pt_1 (fun n d => r_goto gx247_182) ?_)
          refine pt_d (pt_iinc (c := 1) gx247_209 rfl z7 (fun v54 h54 => ?_))
          show Pt _ _ _ _ [some (.ref 72), some (.int x1), some (.int x2), some (.int x3), some (.int x4), some (.int x5), some (.int v35), some (.int v54), some (.int v8), some (.long v11), none] [] _ _
          refine pt_d (pt_1 (fun n d => r_goto gx247_212) ?_)
          have H := H h_39 S39 (by rw [e39])
          exact H v35 v54 _ _ h35 h54
      · have H := H.2 e34
        refine pt_d (pt_1 (fun n d => r_lload gx247_113 rfl) ?_)
        refine pt_d (pt_1 (fun n d => r_aloadn gx247_115 rfl) ?_)
        refine pt_d (pt_getR gx247_116 S tr_72_98 ?_)
        refine pt_d (pt_1 (fun n d => r_iloadn gx247_119 rfl) ?_)
        refine pt_d (pt_iald (N' := 6) gx247_120 S tl_143 z3 (fun v56 p56 q56 h56 => ?_))
        have H := H p56 q56
        refine pt_d (pt_i2l gx247_121 h56 (fun v57 h57 => ?_))
        refine pt_d (pt_lcmp_lt gx247_122 gx247_123 h11 h57 (fun e58 => ?_) (fun e58 => ?_))
        · have H := H.1 e58
          refine pt_d (pt_iconst gx247_130 (fun v59 h59 => ?_))
          refine pt_d (pt_1 (fun n d => r_istore (L' := [some (.ref 72), some (.int x1), some (.int x2), some (.int x3), some (.int x4), some (.int x5), some (.int v59), some (.int x7), some (.int v8), some (.long v11), none]) gx247_131 rfl rfl) ?_)
          refine pt_d (pt_1 (fun n d => r_aloadn gx247_133 rfl) ?_)
          refine pt_d (pt_getR gx247_134 S tr_72_51 ?_)
          refine pt_d (pt_1 (fun n d => r_iload gx247_137 rfl) ?_)
          refine pt_d (pt_1 (fun n d => r_iload gx247_139 rfl) ?_)
          refine pt_d (pt_if_ne gx247_141 h59 (fun e61 => absurd e61 (by decide)) (fun e61 => ?_))
          refine pt_d (pt_1 (fun n d => r_aloadn gx247_144 rfl) ?_)
          refine pt_d (pt_getR gx247_145 S tr_72_99 ?_)
          refine pt_d (pt_bipush gx247_148 (fun v63 h63 => ?_))
          refine pt_d (pt_1 (fun n d => r_iloadn gx247_150 rfl) ?_)
          refine pt_d (pt_imul gx247_151 h63 z3 (fun v64 h64 => ?_))
          refine pt_d (pt_1 (fun n d => r_lload gx247_152 rfl) ?_)
          refine pt_d (pt_l2i gx247_154 h11 (fun v65 h65 => ?_))
          refine pt_d (pt_iadd gx247_155 h64 h65 (fun v66 h66 => ?_))
          refine pt_d (pt_lald (N' := 360) gx247_156 S tl_144 h66 (fun v67 p67 q67 h67 => ?_))
          have H := H p67 q67
          refine pt_d (pt_1 (fun n d => r_aloadn gx247_157 rfl) ?_)
          refine pt_d (pt_getI (B := 52) gx247_158 S (fun v68 h68 => ?_))
          refine pt_d (pt_i2l gx247_161 h68 (fun v69 h69 => ?_))
          refine pt_d (pt_lcmp_eq gx247_162 gx247_163 h67 h69 (fun e70 => ?_) (fun e70 => ?_))
          · have H := H.1 e70
            refine pt_d (pt_iconst gx247_170 (fun v71 h71 => ?_))
            refine pt_d (pt_zast (N' := 9000) gx247_171 S tl_114 h8 h71 (fun h_72 S72 p72 q72 e72 => ?_))
            have H := H p72 q72
            refine pt_d (pt_1 (fun n d => r_aloadn gx247_172 rfl) ?_)
            refine pt_d (pt_getR gx247_173 S72 tr_72_51 ?_)
            refine pt_d (pt_1 (fun n d => r_iload gx247_176 rfl) ?_)
            refine pt_d (pt_zald (N' := 9000) gx247_178 S72 tl_114 h8 (fun v74 p74 q74 h74 => ?_))
            have h74 : v74.toInt = bAnd 0 1 := by rw [h74, e72, up_s]
            refine pt_d (pt_if_ne gx247_179 h74 (fun e75 => ?_) (fun e75 => ?_))
            · have H := H.1 e75
              refine pt_d (pt_1 (fun n d => r_aloadn gx247_185 rfl) ?_)
              refine pt_d (pt_getR gx247_186 S72 tr_72_50 ?_)
              refine pt_d (pt_1 (fun n d => r_iload gx247_189 rfl) ?_)
              refine pt_d (pt_1 (fun n d => r_aloadn gx247_191 rfl) ?_)
              refine pt_d (pt_getR gx247_192 S72 tr_72_99 ?_)
              refine pt_d (pt_bipush gx247_195 (fun v78 h78 => ?_))
              refine pt_d (pt_1 (fun n d => r_iloadn gx247_197 rfl) ?_)
              refine pt_d (pt_imul gx247_198 h78 z3 (fun v79 h79 => ?_))
              refine pt_d (pt_1 (fun n d => r_lload gx247_199 rfl) ?_)
              refine pt_d (pt_l2i gx247_201 h11 (fun v80 h80 => ?_))
              refine pt_d (pt_iadd gx247_202 h79 h80 (fun v81 h81 => ?_))
              refine pt_d (pt_lald (N' := 360) gx247_203 S72 tl_144 h81 (fun v82 p82 q82 h82 => ?_))
              have h82 : v82.toInt = vw h 144 (w32 ((w32 (60 * a3)) + (w32 (w64 (a4 + a7))))) := by rw [h82, e72, up_c (by decide)]
              refine pt_d (pt_l2i gx247_204 h82 (fun v83 h83 => ?_))
              refine pt_d (pt_iast (N' := 9000) gx247_205 S72 tl_113 h8 h83 (fun h_84 S84 p84 q84 e84 => ?_))
              refine pt_d (pt_iinc (c := 1) gx247_206 rfl z5 (fun v85 h85 => ?_))
              show Pt _ _ _ _ [some (.ref 72), some (.int x1), some (.int x2), some (.int x3), some (.int x4), some (.int v85), some (.int v59), some (.int x7), some (.int v8), some (.long v11), none] [] _ _
              refine pt_d (pt_iinc (c := 1) gx247_209 rfl z7 (fun v86 h86 => ?_))
              show Pt _ _ _ _ [some (.ref 72), some (.int x1), some (.int x2), some (.int x3), some (.int x4), some (.int v85), some (.int v59), some (.int v86), some (.int v8), some (.long v11), none] [] _ _
              refine pt_d (pt_1 (fun n d => r_goto gx247_212) ?_)
              have H := H h_84 S84 (by rw [e84, e72])
              exact H v85 v59 v86 _ _ h85 h59 h86
            · have H := H.2 e75
              refine pt_d (pt_1 (fun n d => r_goto gx247_182) ?_)
              refine pt_d (pt_iinc (c := 1) gx247_209 rfl z7 (fun v87 h87 => ?_))
              show Pt _ _ _ _ [some (.ref 72), some (.int x1), some (.int x2), some (.int x3), some (.int x4), some (.int x5), some (.int v59), some (.int v87), some (.int v8), some (.long v11), none] [] _ _
              refine pt_d (pt_1 (fun n d => r_goto gx247_212) ?_)
              have H := H h_72 S72 (by rw [e72])
              exact H v59 v87 _ _ h59 h87
          · have H := H.2 e70
            refine pt_d (pt_iconst gx247_166 (fun v88 h88 => ?_))
            refine pt_d (pt_1 (fun n d => r_goto gx247_167) ?_)
            refine pt_d (pt_zast (N' := 9000) gx247_171 S tl_114 h8 h88 (fun h_89 S89 p89 q89 e89 => ?_))
            have H := H p89 q89
            refine pt_d (pt_1 (fun n d => r_aloadn gx247_172 rfl) ?_)
            refine pt_d (pt_getR gx247_173 S89 tr_72_51 ?_)
            refine pt_d (pt_1 (fun n d => r_iload gx247_176 rfl) ?_)
            refine pt_d (pt_zald (N' := 9000) gx247_178 S89 tl_114 h8 (fun v91 p91 q91 h91 => ?_))
            have h91 : v91.toInt = bAnd 1 1 := by rw [h91, e89, up_s]
            refine pt_d (pt_if_ne gx247_179 h91 (fun e92 => ?_) (fun e92 => ?_))
            · have H := H.1 e92
              refine pt_d (pt_1 (fun n d => r_aloadn gx247_185 rfl) ?_)
              refine pt_d (pt_getR gx247_186 S89 tr_72_50 ?_)
              refine pt_d (pt_1 (fun n d => r_iload gx247_189 rfl) ?_)
              refine pt_d (pt_1 (fun n d => r_aloadn gx247_191 rfl) ?_)
              refine pt_d (pt_getR gx247_192 S89 tr_72_99 ?_)
              refine pt_d (pt_bipush gx247_195 (fun v95 h95 => ?_))
              refine pt_d (pt_1 (fun n d => r_iloadn gx247_197 rfl) ?_)
              refine pt_d (pt_imul gx247_198 h95 z3 (fun v96 h96 => ?_))
              refine pt_d (pt_1 (fun n d => r_lload gx247_199 rfl) ?_)
              refine pt_d (pt_l2i gx247_201 h11 (fun v97 h97 => ?_))
              refine pt_d (pt_iadd gx247_202 h96 h97 (fun v98 h98 => ?_))
              refine pt_d (pt_lald (N' := 360) gx247_203 S89 tl_144 h98 (fun v99 p99 q99 h99 => ?_))
              have h99 : v99.toInt = vw h 144 (w32 ((w32 (60 * a3)) + (w32 (w64 (a4 + a7))))) := by rw [h99, e89, up_c (by decide)]
              refine pt_d (pt_l2i gx247_204 h99 (fun v100 h100 => ?_))
              refine pt_d (pt_iast (N' := 9000) gx247_205 S89 tl_113 h8 h100 (fun h_101 S101 p101 q101 e101 => ?_))
              refine pt_d (pt_iinc (c := 1) gx247_206 rfl z5 (fun v102 h102 => ?_))
              show Pt _ _ _ _ [some (.ref 72), some (.int x1), some (.int x2), some (.int x3), some (.int x4), some (.int v102), some (.int v59), some (.int x7), some (.int v8), some (.long v11), none] [] _ _
              refine pt_d (pt_iinc (c := 1) gx247_209 rfl z7 (fun v103 h103 => ?_))
              show Pt _ _ _ _ [some (.ref 72), some (.int x1), some (.int x2), some (.int x3), some (.int x4), some (.int v102), some (.int v59), some (.int v103), some (.int v8), some (.long v11), none] [] _ _
              refine pt_d (pt_1 (fun n d => r_goto gx247_212) ?_)
              have H := H h_101 S101 (by rw [e101, e89])
              exact H v102 v59 v103 _ _ h102 h59 h103
            · have H := H.2 e92
              refine pt_d (pt_1 (fun n d => r_goto gx247_182) ?_)
              refine pt_d (pt_iinc (c := 1) gx247_209 rfl z7 (fun v104 h104 => ?_))
              show Pt _ _ _ _ [some (.ref 72), some (.int x1), some (.int x2), some (.int x3), some (.int x4), some (.int x5), some (.int v59), some (.int v104), some (.int v8), some (.long v11), none] [] _ _
              refine pt_d (pt_1 (fun n d => r_goto gx247_212) ?_)
              have H := H h_89 S89 (by rw [e89])
              exact H v59 v104 _ _ h59 h104
        · have H := H.2 e58
          refine pt_d (pt_iconst gx247_126 (fun v105 h105 => ?_))
          refine pt_d (pt_1 (fun n d => r_goto gx247_127) ?_)
          refine pt_d (pt_1 (fun n d => r_istore (L' := [some (.ref 72), some (.int x1), some (.int x2), some (.int x3), some (.int x4), some (.int x5), some (.int v105), some (.int x7), some (.int v8), some (.long v11), none]) gx247_131 rfl rfl) ?_)
          refine pt_d (pt_1 (fun n d => r_aloadn gx247_133 rfl) ?_)
          refine pt_d (pt_getR gx247_134 S tr_72_51 ?_)
          refine pt_d (pt_1 (fun n d => r_iload gx247_137 rfl) ?_)
          refine pt_d (pt_1 (fun n d => r_iload gx247_139 rfl) ?_)
          refine pt_d (pt_if_ne gx247_141 h105 (fun e107 => ?_) (fun e107 => absurd e107 (by decide)))
          refine pt_d (pt_iconst gx247_170 (fun v108 h108 => ?_))
          refine pt_d (pt_zast (N' := 9000) gx247_171 S tl_114 h8 h108 (fun h_109 S109 p109 q109 e109 => ?_))
          have H := H p109 q109
          refine pt_d (pt_1 (fun n d => r_aloadn gx247_172 rfl) ?_)
          refine pt_d (pt_getR gx247_173 S109 tr_72_51 ?_)
          refine pt_d (pt_1 (fun n d => r_iload gx247_176 rfl) ?_)
          refine pt_d (pt_zald (N' := 9000) gx247_178 S109 tl_114 h8 (fun v111 p111 q111 h111 => ?_))
          have h111 : v111.toInt = bAnd 0 1 := by rw [h111, e109, up_s]
          refine pt_d (pt_if_ne gx247_179 h111 (fun e112 => ?_) (fun e112 => ?_))
          · have H := H.1 e112
            refine pt_d (pt_1 (fun n d => r_aloadn gx247_185 rfl) ?_)
            refine pt_d (pt_getR gx247_186 S109 tr_72_50 ?_)
            refine pt_d (pt_1 (fun n d => r_iload gx247_189 rfl) ?_)
            refine pt_d (pt_1 (fun n d => r_aloadn gx247_191 rfl) ?_)
            refine pt_d (pt_getR gx247_192 S109 tr_72_99 ?_)
            refine pt_d (pt_bipush gx247_195 (fun v115 h115 => ?_))
            refine pt_d (pt_1 (fun n d => r_iloadn gx247_197 rfl) ?_)
            refine pt_d (pt_imul gx247_198 h115 z3 (fun v116 h116 => ?_))
            refine pt_d (pt_1 (fun n d => r_lload gx247_199 rfl) ?_)
            refine pt_d (pt_l2i gx247_201 h11 (fun v117 h117 => ?_))
            refine pt_d (pt_iadd gx247_202 h116 h117 (fun v118 h118 => ?_))
            refine pt_d (pt_lald (N' := 360) gx247_203 S109 tl_144 h118 (fun v119 p119 q119 h119 => ?_))
            have H := H p119 q119
            have h119 : v119.toInt = vw h 144 (w32 ((w32 (60 * a3)) + (w32 (w64 (a4 + a7))))) := by rw [h119, e109, up_c (by decide)]
            refine pt_d (pt_l2i gx247_204 h119 (fun v120 h120 => ?_))
            refine pt_d (pt_iast (N' := 9000) gx247_205 S109 tl_113 h8 h120 (fun h_121 S121 p121 q121 e121 => ?_))
            refine pt_d (pt_iinc (c := 1) gx247_206 rfl z5 (fun v122 h122 => ?_))
            show Pt _ _ _ _ [some (.ref 72), some (.int x1), some (.int x2), some (.int x3), some (.int x4), some (.int v122), some (.int v105), some (.int x7), some (.int v8), some (.long v11), none] [] _ _
            refine pt_d (pt_iinc (c := 1) gx247_209 rfl z7 (fun v123 h123 => ?_))
            show Pt _ _ _ _ [some (.ref 72), some (.int x1), some (.int x2), some (.int x3), some (.int x4), some (.int v122), some (.int v105), some (.int v123), some (.int v8), some (.long v11), none] [] _ _
            refine pt_d (pt_1 (fun n d => r_goto gx247_212) ?_)
            have H := H h_121 S121 (by rw [e121, e109])
            exact H v122 v105 v123 _ _ h122 h105 h123
          · have H := H.2 e112
            refine pt_d (pt_1 (fun n d => r_goto gx247_182) ?_)
            refine pt_d (pt_iinc (c := 1) gx247_209 rfl z7 (fun v124 h124 => ?_))
            show Pt _ _ _ _ [some (.ref 72), some (.int x1), some (.int x2), some (.int x3), some (.int x4), some (.int x5), some (.int v105), some (.int v124), some (.int v8), some (.long v11), none] [] _ _
            refine pt_d (pt_1 (fun n d => r_goto gx247_212) ?_)
            have H := H h_109 S109 (by rw [e109])
            exact H v105 v124 _ _ h105 h124
def mE (V : vS) (s i : Int) : Nat → Bool
  | 0 => decide (V 142 s = -1)
  | k + 1 => mE V s i k || !decide (0 ≤ i + (k : Int) ∧ i + (k : Int) < V 143 s)
def mB (V : vS) (s i : Int) (k : Nat) : Bool := !mE V s i (k + 1) && decide (V 144 (60 * s + (i + (k : Int))) ≠ V 72 52)
def mN (V : vS) (s i : Int) : Nat → Int
  | 0 => 0
  | k + 1 => mN V s i k + (if mB V s i k then 1 else 0)
theorem mN_b (V : vS) (s i : Int) : ∀ k : Nat, 0 ≤ mN V s i k ∧ mN V s i k ≤ (k : Int)
  | 0 => ⟨Int.le_refl _, Int.le_refl _⟩
  | k + 1 => by
    have := mN_b V s i k
    unfold mN
    split <;> omega
def mwV (V : vS) (b y s i : Int) (k : Nat) : vS := fun c j => if c = 114 ∧ (60 * b + 6 * y ≤ j ∧ j < 60 * b + 6 * y + (k : Int)) then (if mB V s i (j - (60 * b + 6 * y)).toNat then 1 else 0) else if c = 113 ∧ (60 * b + 6 * y ≤ j ∧ j < 60 * b + 6 * y + (k : Int)) ∧ mB V s i (j - (60 * b + 6 * y)).toNat = true then w32 (V 144 (60 * s + (i + (j - (60 * b + 6 * y))))) else V c j
theorem mwV_c {V : vS} {b y s i j : Int} {k c : Nat} (h1 : c ≠ 114) (h2 : c ≠ 113) : mwV V b y s i k c j = V c j := by
  unfold mwV
  rw [if_neg (fun z => h1 z.1), if_neg (fun z => h2 z.1)]
theorem mwV_0 {V : vS} {b y s i : Int} : mwV V b y s i 0 = V := by
  funext c j
  unfold mwV
  rw [if_neg (fun z => by omega), if_neg (fun z => by omega)]
theorem mwV_i {b y j : Int} {k : Nat} (h : j ≠ 60 * b + 6 * y + (k : Int)) : (60 * b + 6 * y ≤ j ∧ j < 60 * b + 6 * y + (k : Int)) ↔ (60 * b + 6 * y ≤ j ∧ j < 60 * b + 6 * y + ((k + 1 : Nat) : Int)) := by omega
theorem mwV_n {V : vS} {b y s i : Int} {k : Nat} (h : mB V s i k = false) : up (mwV V b y s i k) 114 (60 * b + 6 * y + (k : Int)) 0 = mwV V b y s i (k + 1) := by
  funext c j
  by_cases z2 : j = 60 * b + 6 * y + (k : Int)
  · have e : (j - (60 * b + 6 * y)).toNat = k := by omega
    unfold up mwV
    rw [e]
    by_cases z : c = 114
    · rw [if_pos ⟨z, z2⟩, if_pos ⟨z, by omega, by omega⟩, h]
      rfl
    · rw [if_neg (fun w => z w.1), if_neg (fun w => z w.1), if_neg (fun w => by omega), if_neg (fun w => z w.1), if_neg (fun w => by rw [h] at w; exact absurd w.2.2 (by decide))]
  · rw [up_j z2]
    unfold mwV
    simp only [mwV_i z2]
theorem mwV_t {V : vS} {b y s i : Int} {k : Nat} (h : mB V s i k = true) : up (up (mwV V b y s i k) 114 (60 * b + 6 * y + (k : Int)) 1) 113 (60 * b + 6 * y + (k : Int)) (w32 (V 144 (60 * s + (i + (k : Int))))) = mwV V b y s i (k + 1) := by
  funext c j
  by_cases z2 : j = 60 * b + 6 * y + (k : Int)
  · have e : (j - (60 * b + 6 * y)).toNat = k := by omega
    have e' : j - (60 * b + 6 * y) = (k : Int) := by omega
    unfold up mwV
    rw [e, e']
    by_cases z : c = 114
    · rw [if_neg (fun w => by omega), if_pos ⟨z, z2⟩, if_pos ⟨z, by omega, by omega⟩, h]
      rfl
    · by_cases z3 : c = 113
      · rw [if_pos ⟨z3, z2⟩, if_neg (fun w => z w.1), if_pos ⟨z3, ⟨by omega, by omega⟩, h⟩]
      · rw [if_neg (fun w => z3 w.1), if_neg (fun w => z w.1), if_neg (fun w => z w.1), if_neg (fun w => z3 w.1), if_neg (fun w => z w.1), if_neg (fun w => z3 w.1)]
  · rw [up_j z2, up_j z2]
    unfold mwV
    simp only [mwV_i z2]
theorem xi1 {b y k : Int} (b0 : 0 ≤ b) (b1 : b < 150) (h0 : 0 ≤ y) (h1 : y ≤ 9) (h2 : 0 ≤ k) (h3 : k < 6) : w32 (w32 (w32 (60 * b) + w32 (6 * y)) + k) = 60 * b + 6 * y + k := by
  rw [w32_id (z := 60 * b) (by omega) (by omega), w32_id (z := 6 * y) (by omega) (by omega), w32_id (z := 60 * b + 6 * y) (by omega) (by omega), w32_id (by omega) (by omega)]
theorem xi2 {s p : Int} (s0 : 0 ≤ s) (s1 : s < 6) (h2 : 0 ≤ p) (h3 : p < 60) : w32 (w32 (60 * s) + w32 p) = 60 * s + p := by
  rw [w32_id (z := 60 * s) (by omega) (by omega), w32_id (z := p) (by omega) (by omega), w32_id (by omega) (by omega)]
theorem b01 : bAnd 0 1 = 0 := by decide +kernel
theorem b11 : bAnd 1 1 = 1 := by decide +kernel
theorem l_247 {X : aX} {V : vS} {b y s i : Int} (hb : 0 ≤ b ∧ b < 150) (hy : 0 ≤ y ∧ y ≤ 9) (hs : 0 ≤ s ∧ s < 6) (h143 : V 143 s ≤ 60) : ∀ (n : Nat) (h : aH) (x1 x2 x3 x4 x5 x6 x7 : Int32) (u8 u9 : Option Value) (k : Nat), wS h → x1.toInt = b → x2.toInt = y → x3.toInt = s → x4.toInt = i → k ≤ 6 → x7.toInt = (k : Int) → x5.toInt = mN V s i k → (x6.toInt = if mE V s i k then 1 else 0) → vw h = mwV V b y s i k → Pt n X zM247 71 [some (.ref 72), some (.int x1), some (.int x2), some (.int x3), some (.int x4), some (.int x5), some (.int x6), some (.int x7), u8, u9, none] [] h (qI (fun r h' => r = mN V s i 6 ∧ vw h' = mwV V b y s i 6)) := by
  intro n
  induction n with
  | zero => exact fun _ _ _ _ _ _ _ _ _ _ _ _ _ _ _ _ _ _ _ _ _ => pt_z
  | succ n ih =>
    intro h x1 x2 x3 x4 x5 x6 x7 u8 u9 k S h1 h2 h3 h4 hk h7 h5 h6 e
    have bn := mN_b V s i k
    have ri := iR x4
    have c143 : ∀ j, vw h 143 j = V 143 j := fun j => by rw [e]; exact mwV_c (by decide) (by decide)
    have c144 : ∀ j, vw h 144 j = V 144 j := fun j => by rw [e]; exact mwV_c (by decide) (by decide)
    have c72 : vw h 72 52 = V 72 52 := by rw [e]; exact mwV_c (by decide) (by decide)
    have hw : w64 (i + (k : Int)) = i + (k : Int) := w64_id (by omega) (by omega)
    have no : ∀ (g : aH) (w6 w7 : Int32) (u8 u9 : Option Value), (k : Int) < 6 → mB V s i k = false → wS g → vw g = up (vw h) 114 (w32 (w32 (w32 (60 * b) + w32 (6 * y)) + (k : Int))) (bAnd 0 1) → (w6.toInt = if mE V s i (k + 1) then 1 else 0) → w7.toInt = w32 ((k : Int) + 1) → Pt n X zM247 71 [some (.ref 72), some (.int x1), some (.int x2), some (.int x3), some (.int x4), some (.int x5), some (.int w6), some (.int w7), u8, u9, none] [] g (qI (fun r h' => r = mN V s i 6 ∧ vw h' = mwV V b y s i 6)) := by
      intro g w6 w7 u8 u9 k6 nb S2 eg g6 g7
      rw [xi1 hb.1 hb.2 hy.1 hy.2 (by omega) k6, b01, e, mwV_n nb] at eg
      replace g7 := w_1 g7 (by omega) (by omega)
      refine ih g x1 x2 x3 x4 x5 w6 w7 u8 u9 (k + 1) S2 h1 h2 h3 h4 (by omega) (by omega) ?_ g6 eg
      show _ = mN V s i k + _
      rw [if_neg (by rw [nb]; decide)]
      omega
    have nbE : mE V s i (k + 1) = true → mB V s i k = false := fun z => by unfold mB; rw [z]; rfl
    refine d247_71 S h1 h2 h3 h4 h5 h6 h7 ⟨fun e1 => ?_, fun e1 => ⟨fun e2 p p' => ⟨fun z => absurd b01 z, fun _ g S2 eg w6 w7 u8 u9 g6 g7 => ?_⟩, fun e2 => ⟨fun e3 p p' => ⟨fun z => absurd b01 z, fun _ g S2 eg w6 w7 u8 u9 g6 g7 => ?_⟩, fun e3 q1 q2 => ⟨fun e4 p p' => ⟨fun e5 p2 p2' => ⟨fun z => absurd b01 z, fun _ g S2 eg w6 w7 u8 u9 g6 g7 => ?_⟩, fun e5 p2 p2' => ⟨fun _ g S2 eg w5 w6 w7 u8 u9 g5 g6 g7 => ?_, fun z => absurd z (by rw [b11]; decide)⟩⟩, fun e4 p p' => ⟨fun z => absurd b01 z, fun _ g S2 eg w6 w7 u8 u9 g6 g7 => ?_⟩⟩⟩⟩⟩
    · obtain rfl : k = 6 := by omega
      exact ⟨rfl, e⟩
    · have es : mE V s i (k + 1) = true := by
        by_cases z : mE V s i k = true
        · unfold mE; rw [z]; rfl
        · rw [if_neg z] at e2; exact absurd rfl e2
      exact no g w6 w7 u8 u9 e1 (nbE es) S2 eg (by rw [if_pos es]; exact g6) g7
    · have es : mE V s i (k + 1) = true := by
        unfold mE
        rw [decide_eq_false (by omega)]
        cases mE V s i k <;> rfl
      exact no g w6 w7 u8 u9 e1 (nbE es) S2 eg (by rw [if_pos es]; exact g6) g7
    · have z : mE V s i k = false := by
        cases w : mE V s i k with
        | false => rfl
        | true => rw [w, if_pos rfl] at e2; omega
      rw [hw] at e3 e4 e5
      rw [c143] at e4
      have es : mE V s i (k + 1) = false := by
        unfold mE
        rw [z, decide_eq_true ⟨by omega, by omega⟩]
        rfl
      rw [xi2 hs.1 hs.2 e3 (by omega), c144, c72] at e5
      have nb : mB V s i k = false := by
        unfold mB
        rw [es, decide_eq_false (fun w => w e5)]
        rfl
      exact no g w6 w7 u8 u9 e1 nb S2 eg (by rw [es]; exact g6) g7
    · have z : mE V s i k = false := by
        cases w : mE V s i k with
        | false => rfl
        | true => rw [w, if_pos rfl] at e2; omega
      rw [hw] at e3 e4 e5 eg
      rw [c143] at e4
      have es : mE V s i (k + 1) = false := by
        unfold mE
        rw [z, decide_eq_true ⟨by omega, by omega⟩]
        rfl
      rw [xi2 hs.1 hs.2 e3 (by omega), c144, c72] at e5
      have nb : mB V s i k = true := by
        unfold mB
        rw [es, decide_eq_true e5]
        rfl
      rw [xi1 hb.1 hb.2 hy.1 hy.2 (by omega) e1, xi2 hs.1 hs.2 e3 (by omega), c144, b11, e, mwV_t nb] at eg
      replace g7 := w_1 g7 (by omega) (by omega)
      replace g5 := w_1 g5 (by omega) (by omega)
      refine ih g x1 x2 x3 x4 w5 w6 w7 u8 u9 (k + 1) S2 h1 h2 h3 h4 (by omega) (by omega) ?_ (by rw [es]; exact g6) eg
      show _ = mN V s i k + _
      rw [if_pos nb]
      omega
    · have es : mE V s i (k + 1) = true := by
        rw [hw, c143] at e4
        unfold mE
        rw [decide_eq_false (by omega)]
        cases mE V s i k <;> rfl
      exact no g w6 w7 u8 u9 e1 (nbE es) S2 eg (by rw [if_pos es]; exact g6) g7
def R247 (V : vS) (b y s i r : Int) (V' : vS) : Prop := (¬ (mField V b ∧ (0 ≤ y ∧ y ≤ 9) ∧ 0 ≤ s ∧ s ≤ 5) ∧ r = -1 ∧ V' = V) ∨ ((mField V b ∧ (0 ≤ y ∧ y ≤ 9) ∧ 0 ≤ s ∧ s ≤ 5) ∧ ((V 142 s ≠ -1 ∧ V 142 s ≠ -2 ∧ r = -12 ∧ V' = V) ∨ ((V 142 s = -1 ∨ V 142 s = -2) ∧ r = mN V s i 6 ∧ V' = mwV V b y s i 6)))
theorem c_247 {n : Nat} {X : aX} {h : aH} {x1 x2 x3 x4 : Int32} {a1 a2 a3 a4 : Int} (S : wS h) (z1 : x1.toInt = a1) (z2 : x2.toInt = a2) (z3 : x3.toInt = a3) (z4 : x4.toInt = a4) (hp : (∀ j, 0 ≤ j → j < 6 → 0 ≤ vw h 143 j ∧ vw h 143 j ≤ 60) ∧ 0 ≤ vw h 72 2 ∧ vw h 72 2 ≤ 150) : Pt n X zM247 0 [some (.ref 72), some (.int x1), some (.int x2), some (.int x3), some (.int x4), none, none, none, none, none, none] [] h (qI (fun y h' => R247 (vw h) a1 a2 a3 a4 y (vw h'))) := by
  have go : ∀ (e : mField (vw h) a1) (e2 : 0 ≤ a2 ∧ a2 ≤ 9) (e3 : 0 ≤ a3 ∧ a3 ≤ 5) (e4 : vw h 142 a3 = -1 ∨ vw h 142 a3 = -2) (w5 w6 w7 : Int32) (u8 u9 : Option Value), w5.toInt = 0 → (w6.toInt = if mE (vw h) a3 a4 0 then 1 else 0) → w7.toInt = 0 → Pt n X zM247 71 [some (.ref 72), some (.int x1), some (.int x2), some (.int x3), some (.int x4), some (.int w5), some (.int w6), some (.int w7), u8, u9, none] [] h (qI (fun y h' => R247 (vw h) a1 a2 a3 a4 y (vw h'))) := by
    intro e e2 e3 e4 w5 w6 w7 u8 u9 g5 g6 g7
    refine pt_q (l_247 (V := vw h) (mField_b e hp.2) e2 ⟨e3.1, by omega⟩ (hp.1 _ e3.1 (by omega)).2 n h x1 x2 x3 x4 w5 w6 w7 u8 u9 0 S z1 z2 z3 z4 (by decide) g7 g5 g6 mwV_0.symm) ?_
    rintro v h' ⟨x, ex, p1, p2⟩
    exact ⟨x, ex, Or.inr ⟨⟨e, e2, e3⟩, Or.inr ⟨e4, p1, p2⟩⟩⟩
  have t1 : vw h 142 a3 = -1 → (1 : Int) = if mE (vw h) a3 a4 0 then 1 else 0 := fun z => by show (1 : Int) = if decide (vw h 142 a3 = -1) = true then 1 else 0; rw [decide_eq_true z]; rfl
  have t0 : vw h 142 a3 ≠ -1 → (0 : Int) = if mE (vw h) a3 a4 0 then 1 else 0 := fun z => by show (0 : Int) = if decide (vw h 142 a3 = -1) = true then 1 else 0; rw [decide_eq_false z]; rfl
  refine pt_d (d247_0 S z1 z2 z3 z4 ⟨fun e => Or.inl ⟨fun z => e z.1, rfl, rfl⟩, fun e => ⟨fun e2 => Or.inl ⟨fun z => e2 z.2.1, rfl, rfl⟩, fun e2 => ⟨fun e3 u1 u2 => ⟨fun e4 => ⟨fun e5 => absurd e4 e5, fun _ w5 w6 w7 u8 u9 g5 g6 g7 => go e e2 e3 (Or.inl e4) w5 w6 w7 u8 u9 g5 (g6.trans (t1 e4)) g7⟩, fun e4 => ⟨fun e5 => ⟨fun _ w5 w6 w7 u8 u9 g5 g6 g7 => go e e2 e3 (Or.inr e5) w5 w6 w7 u8 u9 g5 (g6.trans (t0 e4)) g7, fun e6 => absurd e6 e4⟩, fun e5 => Or.inr ⟨⟨e, e2, e3⟩, Or.inl ⟨e4, e5, rfl, rfl⟩⟩⟩⟩, fun e3 => Or.inl ⟨fun z => e3 z.2.2, rfl, rfl⟩⟩⟩⟩)


-- ===== the class makes and finds texts =====
theorem d118_0 {n : Nat} {X : aX} {h : aH} {P : Int → aH → Prop} {x1 x2 x3 : Int32} {a1 a2 a3 : Int} (S : wS h) (z1 : x1.toInt = a1) (z2 : x2.toInt = a2) (z3 : x3.toInt = a3) (H : ((vw h 33 7 < 16 → ((0 : Int) ≤ 0 → (0 : Int) ≤ w32 ((vw h 33 7) * 160) → (0 : Int) ≤ vw h 33 1 → (0 ≤ vw h 33 7 → vw h 33 7 < 16 → ∀ h_17 : aH, wS h_17 → vw h_17 = up (up (cpy (vw h) 34 0 35 (w32 ((vw h 33 7) * 160)) (vw h 33 1)) 36 (vw h 33 7) (vw h 33 1)) 33 1 0 → ((pre122 (vw h_17) (vw h 33 7)) ∧ ∀ (y19 : Int) (h_19 : aH), (wS h_19 ∧ R122 (vw h_17) (vw h 33 7) y19 (vw h_19)) → ((y19 = (-1) → (0 ≤ vw h_19 33 7 → vw h_19 33 7 < 16 → ∀ h_34 : aH, wS h_34 → vw h_34 = up (up (up (up (vw h_19) 37 (vw h_19 33 7) a1) 38 (vw h_19 33 7) a2) 39 (vw h_19 33 7) a3) 33 7 (w32 ((vw h_19 33 7) + 1)) → P (w32 ((w32 ((vw h_19 33 7) + 1)) - 1)) h_34)) ∧ (y19 ≠ (-1) → P (w32 ((-100) - y19)) h_19)))))) ∧ (16 ≤ vw h 33 7 → P (-3) h))) : Pt (n + 1) X zM118 0 [some (.ref 33), some (.int x1), some (.int x2), some (.int x3), none] [] h (qI P) := by
  refine pt_1 (fun n d => r_aloadn gx118_0 rfl) ?_
  refine pt_d (pt_getI (B := 7) gx118_1 S (fun v1 h1 => ?_))
  refine pt_d (pt_bipush gx118_4 (fun v2 h2 => ?_))
  refine pt_d (pt_icmp_lt gx118_6 h1 h2 (fun e3 => ?_) (fun e3 => ?_))
  · have H := H.1 e3
    refine pt_d (pt_1 (fun n d => r_aloadn gx118_12 rfl) ?_)
    refine pt_d (pt_getR gx118_13 S tr_33_0 ?_)
    refine pt_d (pt_iconst gx118_16 (fun v5 h5 => ?_))
    refine pt_d (pt_1 (fun n d => r_aloadn gx118_17 rfl) ?_)
    refine pt_d (pt_getR gx118_18 S tr_33_2 ?_)
    refine pt_d (pt_1 (fun n d => r_aloadn gx118_21 rfl) ?_)
    refine pt_d (pt_getI (B := 7) gx118_22 S (fun v7 h7 => ?_))
    refine pt_d (pt_sipush gx118_25 (fun v8 h8 => ?_))
    refine pt_d (pt_imul gx118_28 h7 h8 (fun v9 h9 => ?_))
    refine pt_d (pt_1 (fun n d => r_aloadn gx118_29 rfl) ?_)
    refine pt_d (pt_getI (B := 1) gx118_30 S (fun v10 h10 => ?_))
    refine pt_d (pt_copy gx118_33 rfl S h5 h9 h10 (fun h_11 S11 p11 q11 r11 e11 => ?_))
    have H := H p11 q11 r11
    refine pt_d (pt_1 (fun n d => r_aloadn gx118_36 rfl) ?_)
    refine pt_d (pt_getR gx118_37 S11 tr_33_3 ?_)
    refine pt_d (pt_1 (fun n d => r_aloadn gx118_40 rfl) ?_)
    refine pt_d (pt_getI (B := 7) gx118_41 S11 (fun v13 h13 => ?_))
    have h13 : v13.toInt = vw h 33 7 := by rw [h13, e11, cpy_c (by decide)]
    refine pt_d (pt_1 (fun n d => r_aloadn gx118_44 rfl) ?_)
    refine pt_d (pt_getI (B := 1) gx118_45 S11 (fun v14 h14 => ?_))
    have h14 : v14.toInt = vw h 33 1 := by rw [h14, e11, cpy_c (by decide)]
    refine pt_d (pt_iast (N' := 16) gx118_48 S11 tl_36 h13 h14 (fun h_15 S15 p15 q15 e15 => ?_))
    have H := H p15 q15
    refine pt_d (pt_1 (fun n d => r_aloadn gx118_49 rfl) ?_)
    refine pt_d (pt_iconst gx118_50 (fun v16 h16 => ?_))
    refine pt_d (pt_putI (B := 1) gx118_51 S15 h16 (fun h_17 S17 e17 => ?_))
    refine pt_d (pt_1 (fun n d => r_aloadn gx118_54 rfl) ?_)
    refine pt_d (pt_1 (fun n d => r_aloadn gx118_55 rfl) ?_)
    refine pt_d (pt_getI (B := 7) gx118_56 S17 (fun v18 h18 => ?_))
    have h18 : v18.toInt = vw h 33 7 := by rw [h18, e17, up_j (by decide), e15, up_c (by decide), e11, cpy_c (by decide)]
    have H := H h_17 S17 (by rw [e17, e15, e11])
    obtain ⟨pr19, H⟩ := H
    refine pt_d (pt_virt (as := [.int v18]) (r := []) gx118_59 rfl (show zmt[122]? = some zM122 from rfl) rfl rfl rfl rfl (c_122 S17 h18 pr19) (kqI (fun v19 y19 h_19 h19 P19 => ?_)))
    have S19 := P19.1
    have H := H y19 h_19 P19
    show Pt _ _ _ 62 _ [.int v19] _ _
    refine pt_d (pt_1 (fun n d => r_istore (L' := [some (.ref 33), some (.int x1), some (.int x2), some (.int x3), some (.int v19)]) gx118_62 rfl rfl) ?_)
    refine pt_d (pt_1 (fun n d => r_iload gx118_64 rfl) ?_)
    refine pt_d (pt_iconst gx118_66 (fun v20 h20 => ?_))
    refine pt_d (pt_icmp_eq gx118_67 h19 h20 (fun e21 => ?_) (fun e21 => ?_))
    · have H := H.1 e21
      refine pt_d (pt_1 (fun n d => r_aloadn gx118_76 rfl) ?_)
      refine pt_d (pt_getR gx118_77 S19 tr_33_4 ?_)
      refine pt_d (pt_1 (fun n d => r_aloadn gx118_80 rfl) ?_)
      refine pt_d (pt_getI (B := 7) gx118_81 S19 (fun v23 h23 => ?_))
      refine pt_d (pt_1 (fun n d => r_iloadn gx118_84 rfl) ?_)
      refine pt_d (pt_iast (N' := 16) gx118_85 S19 tl_37 h23 z1 (fun h_24 S24 p24 q24 e24 => ?_))
      have H := H p24 q24
      refine pt_d (pt_1 (fun n d => r_aloadn gx118_86 rfl) ?_)
      refine pt_d (pt_getR gx118_87 S24 tr_33_5 ?_)
      refine pt_d (pt_1 (fun n d => r_aloadn gx118_90 rfl) ?_)
      refine pt_d (pt_getI (B := 7) gx118_91 S24 (fun v26 h26 => ?_))
      have h26 : v26.toInt = vw h_19 33 7 := by rw [h26, e24, up_c (by decide)]
      refine pt_d (pt_1 (fun n d => r_iloadn gx118_94 rfl) ?_)
      refine pt_d (pt_iast (N' := 16) gx118_95 S24 tl_38 h26 z2 (fun h_27 S27 p27 q27 e27 => ?_))
      refine pt_d (pt_1 (fun n d => r_aloadn gx118_96 rfl) ?_)
      refine pt_d (pt_getR gx118_97 S27 tr_33_6 ?_)
      refine pt_d (pt_1 (fun n d => r_aloadn gx118_100 rfl) ?_)
      refine pt_d (pt_getI (B := 7) gx118_101 S27 (fun v29 h29 => ?_))
      have h29 : v29.toInt = vw h_19 33 7 := by rw [h29, e27, up_c (by decide), e24, up_c (by decide)]
      refine pt_d (pt_1 (fun n d => r_iloadn gx118_104 rfl) ?_)
      refine pt_d (pt_iast (N' := 16) gx118_105 S27 tl_39 h29 z3 (fun h_30 S30 p30 q30 e30 => ?_))
      refine pt_d (pt_1 (fun n d => r_aloadn gx118_106 rfl) ?_)
      refine pt_d (pt_1 (fun n d => r_dup gx118_107 rfl) ?_)
      refine pt_d (pt_getI (B := 7) gx118_108 S30 (fun v31 h31 => ?_))
      have h31 : v31.toInt = vw h_19 33 7 := by rw [h31, e30, up_c (by decide), e27, up_c (by decide), e24, up_c (by decide)]
      refine pt_d (pt_iconst gx118_111 (fun v32 h32 => ?_))
      refine pt_d (pt_iadd gx118_112 h31 h32 (fun v33 h33 => ?_))
      refine pt_d (pt_putI (B := 7) gx118_113 S30 h33 (fun h_34 S34 e34 => ?_))
      refine pt_d (pt_1 (fun n d => r_aloadn gx118_116 rfl) ?_)
      refine pt_d (pt_getI (B := 7) gx118_117 S34 (fun v35 h35 => ?_))
      have h35 : v35.toInt = w32 ((vw h_19 33 7) + 1) := by rw [h35, e34, up_s]
      refine pt_d (pt_iconst gx118_120 (fun v36 h36 => ?_))
      refine pt_d (pt_isub gx118_121 h35 h36 (fun v37 h37 => ?_))
      have H := H h_34 S34 (by rw [e34, e30, e27, e24])
      exact pt_d (pt_iret gx118_122 ⟨_, rfl, by rw [h37]; exact H⟩)
    · have H := H.2 e21
      refine pt_d (pt_bipush gx118_70 (fun v38 h38 => ?_))
      refine pt_d (pt_1 (fun n d => r_iload gx118_72 rfl) ?_)
      refine pt_d (pt_isub gx118_74 h38 h19 (fun v39 h39 => ?_))
      exact pt_d (pt_iret gx118_75 ⟨_, rfl, by rw [h39]; exact H⟩)
  · have H := H.2 e3
    refine pt_d (pt_bipush gx118_9 (fun v40 h40 => ?_))
    exact pt_d (pt_iret gx118_11 ⟨_, rfl, by rw [h40]; exact H⟩)
theorem d117_0 {n : Nat} {X : aX} {h : aH} {P : Int → aH → Prop} {x1 x2 : Int32} {a1 a2 : Int} (S : wS h) (z1 : x1.toInt = a1) (z2 : x2.toInt = a2) (H : (∀ (w3 : Int32), w3.toInt = 0 → Pt n X zM117 2 [some (.ref 33), some (.int x1), some (.int x2), some (.int w3)] [] h (qI P))) : Pt (n + 1) X zM117 0 [some (.ref 33), some (.int x1), some (.int x2), none] [] h (qI P) := by
  refine pt_iconst gx117_0 (fun v1 h1 => ?_)
  refine pt_d (pt_1 (fun n d => r_istoren (L' := [some (.ref 33), some (.int x1), some (.int x2), some (.int v1)]) gx117_1 rfl rfl) ?_)
  exact H v1 h1
theorem d117_2 {n : Nat} {X : aX} {h : aH} {P : Int → aH → Prop} {x1 x2 x3 : Int32} {a1 a2 a3 : Int} (S : wS h) (z1 : x1.toInt = a1) (z2 : x2.toInt = a2) (z3 : x3.toInt = a3) (H : ((a1 ≤ a3 → P (vw h 33 1) h) ∧ (a3 < a1 → ((160 ≤ vw h 33 1 → P (vw h 33 1) h) ∧ (vw h 33 1 < 160 → (0 ≤ vw h 33 1 → vw h 33 1 < 160 → ∀ h_17 : aH, wS h_17 → vw h_17 = up (up (vw h) 34 (vw h 33 1) (w8 (w8 (bShr a2 (w32 (8 * a3)))))) 33 1 (w32 ((vw h 33 1) + 1)) → (∀ (w3 : Int32), w3.toInt = w32 (a3 + 1) → Pt n X zM117 2 [some (.ref 33), some (.int x1), some (.int x2), some (.int w3)] [] h_17 (qI P)))))))) : Pt (n + 1) X zM117 2 [some (.ref 33), some (.int x1), some (.int x2), some (.int x3)] [] h (qI P) := by
  refine pt_1 (fun n d => r_iloadn gx117_2 rfl) ?_
  refine pt_d (pt_1 (fun n d => r_iloadn gx117_3 rfl) ?_)
  refine pt_d (pt_icmp_ge gx117_4 z3 z1 (fun e1 => ?_) (fun e1 => ?_))
  · have H := H.1 e1
    refine pt_d (pt_1 (fun n d => r_aloadn gx117_49 rfl) ?_)
    refine pt_d (pt_getI (B := 1) gx117_50 S (fun v2 h2 => ?_))
    exact pt_d (pt_iret gx117_53 ⟨_, rfl, by rw [h2]; exact H⟩)
  · have H := H.2 e1
    refine pt_d (pt_1 (fun n d => r_aloadn gx117_7 rfl) ?_)
    refine pt_d (pt_getI (B := 1) gx117_8 S (fun v3 h3 => ?_))
    refine pt_d (pt_sipush gx117_11 (fun v4 h4 => ?_))
    refine pt_d (pt_icmp_ge gx117_14 h3 h4 (fun e5 => ?_) (fun e5 => ?_))
    · have H := H.1 e5
      refine pt_d (pt_1 (fun n d => r_aloadn gx117_49 rfl) ?_)
      refine pt_d (pt_getI (B := 1) gx117_50 S (fun v6 h6 => ?_))
      exact pt_d (pt_iret gx117_53 ⟨_, rfl, by rw [h6]; exact H⟩)
    · have H := H.2 e5
      refine pt_d (pt_1 (fun n d => r_aloadn gx117_17 rfl) ?_)
      refine pt_d (pt_getR gx117_18 S tr_33_0 ?_)
      refine pt_d (pt_1 (fun n d => r_aloadn gx117_21 rfl) ?_)
      refine pt_d (pt_getI (B := 1) gx117_22 S (fun v8 h8 => ?_))
      refine pt_d (pt_1 (fun n d => r_iloadn gx117_25 rfl) ?_)
      refine pt_d (pt_bipush gx117_26 (fun v9 h9 => ?_))
      refine pt_d (pt_1 (fun n d => r_iloadn gx117_28 rfl) ?_)
      refine pt_d (pt_imul gx117_29 h9 z3 (fun v10 h10 => ?_))
      refine pt_d (pt_ishr gx117_30 z2 h10 (fun v11 h11 => ?_))
      refine pt_d (pt_i2b gx117_31 h11 (fun v12 h12 => ?_))
      refine pt_d (pt_bast (N' := 160) gx117_32 S tl_34 h8 h12 (fun h_13 S13 p13 q13 e13 => ?_))
      have H := H p13 q13
      refine pt_d (pt_1 (fun n d => r_aloadn gx117_33 rfl) ?_)
      refine pt_d (pt_1 (fun n d => r_dup gx117_34 rfl) ?_)
      refine pt_d (pt_getI (B := 1) gx117_35 S13 (fun v14 h14 => ?_))
      have h14 : v14.toInt = vw h 33 1 := by rw [h14, e13, up_c (by decide)]
      refine pt_d (pt_iconst gx117_38 (fun v15 h15 => ?_))
      refine pt_d (pt_iadd gx117_39 h14 h15 (fun v16 h16 => ?_))
      refine pt_d (pt_putI (B := 1) gx117_40 S13 h16 (fun h_17 S17 e17 => ?_))
      refine pt_d (pt_iinc (c := 1) gx117_43 rfl z3 (fun v18 h18 => ?_))
      show Pt _ _ _ _ [some (.ref 33), some (.int x1), some (.int x2), some (.int v18)] [] _ _
      refine pt_d (pt_1 (fun n d => r_goto gx117_46) ?_)
      have H := H h_17 S17 (by rw [e17, e13])
      exact H v18 h18
theorem d120_0 {n : Nat} {X : aX} {h : aH} {P : Int → aH → Prop} {x1 x2 x3 : Int32} {a1 a2 a3 : Int} (S : wS h) (z1 : x1.toInt = a1) (z2 : x2.toInt = a2) (z3 : x3.toInt = a3) (H : (∀ (w4 : Int32), w4.toInt = w32 ((vw h 33 7) - 1) → Pt n X zM120 8 [some (.ref 33), some (.int x1), some (.int x2), some (.int x3), some (.int w4)] [] h (qI P))) : Pt (n + 1) X zM120 0 [some (.ref 33), some (.int x1), some (.int x2), some (.int x3), none] [] h (qI P) := by
  refine pt_1 (fun n d => r_aloadn gx120_0 rfl) ?_
  refine pt_d (pt_getI (B := 7) gx120_1 S (fun v1 h1 => ?_))
  refine pt_d (pt_iconst gx120_4 (fun v2 h2 => ?_))
  refine pt_d (pt_isub gx120_5 h1 h2 (fun v3 h3 => ?_))
  refine pt_d (pt_1 (fun n d => r_istore (L' := [some (.ref 33), some (.int x1), some (.int x2), some (.int x3), some (.int v3)]) gx120_6 rfl rfl) ?_)
  exact H v3 h3
theorem d120_8 {n : Nat} {X : aX} {h : aH} {P : Int → aH → Prop} {x1 x2 x3 x4 : Int32} {a1 a2 a3 a4 : Int} (S : wS h) (z1 : x1.toInt = a1) (z2 : x2.toInt = a2) (z3 : x3.toInt = a3) (z4 : x4.toInt = a4) (H : ((a4 < 0 → P (-1) h) ∧ (0 ≤ a4 → (0 ≤ a4 → a4 < 16 → ((vw h 37 a4 ≠ a1 → (∀ (w4 : Int32), w4.toInt = w32 (a4 + (-1)) → Pt n X zM120 8 [some (.ref 33), some (.int x1), some (.int x2), some (.int x3), some (.int w4)] [] h (qI P))) ∧ (vw h 37 a4 = a1 → ((a2 < vw h 38 a4 → (∀ (w4 : Int32), w4.toInt = w32 (a4 + (-1)) → Pt n X zM120 8 [some (.ref 33), some (.int x1), some (.int x2), some (.int x3), some (.int w4)] [] h (qI P))) ∧ (vw h 38 a4 ≤ a2 → ((a3 < vw h 39 a4 → (∀ (w4 : Int32), w4.toInt = w32 (a4 + (-1)) → Pt n X zM120 8 [some (.ref 33), some (.int x1), some (.int x2), some (.int x3), some (.int w4)] [] h (qI P))) ∧ (vw h 39 a4 ≤ a3 → P a4 h)))))))))) : Pt (n + 1) X zM120 8 [some (.ref 33), some (.int x1), some (.int x2), some (.int x3), some (.int x4)] [] h (qI P) := by
  refine pt_1 (fun n d => r_iload gx120_8 rfl) ?_
  refine pt_d (pt_if_lt gx120_10 z4 (fun e1 => ?_) (fun e1 => ?_))
  · have H := H.1 e1
    refine pt_d (pt_iconst gx120_55 (fun v2 h2 => ?_))
    exact pt_d (pt_iret gx120_56 ⟨_, rfl, by rw [h2]; exact H⟩)
  · have H := H.2 e1
    refine pt_d (pt_1 (fun n d => r_aloadn gx120_13 rfl) ?_)
    refine pt_d (pt_getR gx120_14 S tr_33_4 ?_)
    refine pt_d (pt_1 (fun n d => r_iload gx120_17 rfl) ?_)
    refine pt_d (pt_iald (N' := 16) gx120_19 S tl_37 z4 (fun v4 p4 q4 h4 => ?_))
    have H := H p4 q4
    refine pt_d (pt_1 (fun n d => r_iloadn gx120_20 rfl) ?_)
    refine pt_d (pt_icmp_ne gx120_21 h4 z1 (fun e5 => ?_) (fun e5 => ?_))
    · have H := H.1 e5
      refine pt_d (pt_iinc (c := (-1)) gx120_49 rfl z4 (fun v6 h6 => ?_))
      show Pt _ _ _ _ [some (.ref 33), some (.int x1), some (.int x2), some (.int x3), some (.int v6)] [] _ _
      refine pt_d (pt_1 (fun n d => r_goto gx120_52) ?_)
      exact H v6 h6
    · have H := H.2 e5
      refine pt_d (pt_1 (fun n d => r_aloadn gx120_24 rfl) ?_)
      refine pt_d (pt_getR gx120_25 S tr_33_5 ?_)
      refine pt_d (pt_1 (fun n d => r_iload gx120_28 rfl) ?_)
      refine pt_d (pt_iald (N' := 16) gx120_30 S tl_38 z4 (fun v8 p8 q8 h8 => ?_))
      refine pt_d (pt_1 (fun n d => r_iloadn gx120_31 rfl) ?_)
      refine pt_d (pt_icmp_gt gx120_32 h8 z2 (fun e9 => ?_) (fun e9 => ?_))
      · have H := H.1 e9
        refine pt_d (pt_iinc (c := (-1)) gx120_49 rfl z4 (fun v10 h10 => ?_))
        show Pt _ _ _ _ [some (.ref 33), some (.int x1), some (.int x2), some (.int x3), some (.int v10)] [] _ _
        refine pt_d (pt_1 (fun n d => r_goto gx120_52) ?_)
        exact H v10 h10
      · have H := H.2 e9
        refine pt_d (pt_1 (fun n d => r_aloadn gx120_35 rfl) ?_)
        refine pt_d (pt_getR gx120_36 S tr_33_6 ?_)
        refine pt_d (pt_1 (fun n d => r_iload gx120_39 rfl) ?_)
        refine pt_d (pt_iald (N' := 16) gx120_41 S tl_39 z4 (fun v12 p12 q12 h12 => ?_))
        refine pt_d (pt_1 (fun n d => r_iloadn gx120_42 rfl) ?_)
        refine pt_d (pt_icmp_gt gx120_43 h12 z3 (fun e13 => ?_) (fun e13 => ?_))
        · have H := H.1 e13
          refine pt_d (pt_iinc (c := (-1)) gx120_49 rfl z4 (fun v14 h14 => ?_))
          show Pt _ _ _ _ [some (.ref 33), some (.int x1), some (.int x2), some (.int x3), some (.int v14)] [] _ _
          refine pt_d (pt_1 (fun n d => r_goto gx120_52) ?_)
          exact H v14 h14
        · have H := H.2 e13
          refine pt_d (pt_1 (fun n d => r_iload gx120_46 rfl) ?_)
          exact pt_d (pt_iret gx120_48 ⟨_, rfl, by rw [z4]; exact H⟩)
theorem d143_0 {n : Nat} {X : aX} {h : aH} {P : Int → aH → Prop} {x0 : Int32} {a0 : Int} (S : wS h) (z0 : x0.toInt = a0) (H : ((a0 < 0 → P 0 h) ∧ (0 ≤ a0 → ((¬ (0 ≤ (iDiv a0 10) ∧ (iDiv a0 10) ≤ 3) → P 0 h) ∧ ((0 ≤ (iDiv a0 10) ∧ (iDiv a0 10) ≤ 3) → ((4 ≤ iRem a0 10 → P 0 h) ∧ (iRem a0 10 < 4 → P 1 h))))))) : Pt (n + 1) X zM143 0 [some (.int x0)] [] h (qI P) := by
  refine pt_1 (fun n d => r_iloadn gx143_0 rfl) ?_
  refine pt_d (pt_if_lt gx143_1 z0 (fun e1 => ?_) (fun e1 => ?_))
  · have H := H.1 e1
    refine pt_d (pt_iconst gx143_26 (fun v2 h2 => ?_))
    exact pt_d (pt_iret gx143_27 ⟨_, rfl, by rw [h2]; exact H⟩)
  · have H := H.2 e1
    refine pt_d (pt_1 (fun n d => r_iloadn gx143_4 rfl) ?_)
    refine pt_d (pt_bipush gx143_5 (fun v3 h3 => ?_))
    refine pt_d (pt_idiv gx143_7 z0 h3 (fun v4 h4 => ?_))
    refine pt_d (pt_stat (as := [.int v4]) (r := []) gx143_8 rfl (show zmt[140]? = some zM140 from rfl) rfl rfl rfl rfl (c_140 S h4) (kqP (fun v5 h5 => ?_)))
    show Pt _ _ _ 11 _ [.int v5] _ _
    refine pt_d (pt_ifB_eq gx143_11 h5 (fun e6 => ?_) (fun e6 => ?_))
    · have H := H.1 e6
      refine pt_d (pt_iconst gx143_26 (fun v7 h7 => ?_))
      exact pt_d (pt_iret gx143_27 ⟨_, rfl, by rw [h7]; exact H⟩)
    · have H := H.2 e6
      refine pt_d (pt_1 (fun n d => r_iloadn gx143_14 rfl) ?_)
      refine pt_d (pt_bipush gx143_15 (fun v8 h8 => ?_))
      refine pt_d (pt_irem gx143_17 z0 h8 (fun v9 h9 => ?_))
      refine pt_d (pt_iconst gx143_18 (fun v10 h10 => ?_))
      refine pt_d (pt_icmp_ge gx143_19 h9 h10 (fun e11 => ?_) (fun e11 => ?_))
      · have H := H.1 e11
        refine pt_d (pt_iconst gx143_26 (fun v12 h12 => ?_))
        exact pt_d (pt_iret gx143_27 ⟨_, rfl, by rw [h12]; exact H⟩)
      · have H := H.2 e11
        refine pt_d (pt_iconst gx143_22 (fun v13 h13 => ?_))
        refine pt_d (pt_1 (fun n d => r_goto gx143_23) ?_)
        exact pt_d (pt_iret gx143_27 ⟨_, rfl, by rw [h13]; exact H⟩)
def tT (V : vS) (p : Int) : Int := if 0 ≤ p ∧ p < V 33 1 then V 34 p else -1
def pre118 (V : vS) : Prop := (0 ≤ V 33 1 ∧ V 33 1 ≤ 160) ∧ (∀ j, 0 ≤ j → j < 160 → -128 ≤ V 34 j ∧ V 34 j ≤ 127) ∧ ∀ j, 0 ≤ j → j < 2560 → -128 ≤ V 35 j ∧ V 35 j ≤ 127
def W118 (V : vS) : vS := up (up (cpy V 34 0 35 (160 * V 33 7) (V 33 1)) 36 (V 33 7) (V 33 1)) 33 1 0
def R118 (V : vS) (w y d r : Int) (V' : vS) : Prop := (16 ≤ V 33 7 ∧ r = -3 ∧ V' = V) ∨ ((0 ≤ V 33 7 ∧ V 33 7 < 16) ∧ ∃ q f : Int, Pr (tT V) 11 0 0 q f ∧ ((rsF (V 33 1) q f = -1 ∧ r = V 33 7 ∧ ∀ c j, (c ≠ 33 ∨ (j < 9 ∨ 14 < j)) → V' c j = up (up (up (up (W118 V) 37 (V 33 7) w) 38 (V 33 7) y) 39 (V 33 7) d) 33 7 (V 33 7 + 1) c j) ∨ (rsF (V 33 1) q f ≠ -1 ∧ r = w32 (-100 - rsF (V 33 1) q f) ∧ ∀ c j, (c ≠ 33 ∨ (j < 9 ∨ 14 < j)) → V' c j = W118 V c j)))
theorem W_pre {V : vS} (H : pre118 V) (n0 : 0 ≤ V 33 7) (n1 : V 33 7 < 16) : pre122 (W118 V) (V 33 7) ∧ oT (W118 V) (V 33 7) = tT V ∧ W118 V 36 (V 33 7) = V 33 1 ∧ W118 V 33 7 = V 33 7 := by
  obtain ⟨h1, h2, h3⟩ := H
  have e36 : W118 V 36 (V 33 7) = V 33 1 := by
    unfold W118
    rw [up_c (by decide), up_s]
  have e35 : ∀ j, W118 V 35 j = if 160 * V 33 7 ≤ j ∧ j < 160 * V 33 7 + V 33 1 then V 34 (j - 160 * V 33 7) else V 35 j := by
    intro j
    unfold W118
    rw [up_c (by decide), up_c (by decide)]
    unfold cpy
    by_cases z : 160 * V 33 7 ≤ j ∧ j < 160 * V 33 7 + V 33 1
    · rw [if_pos z, if_pos ⟨rfl, z⟩, Int.zero_add]
    · rw [if_neg z, if_neg (fun w => z w.2)]
  refine ⟨⟨⟨n0, n1⟩, by rw [e36]; exact h1, fun j j0 j1 => ?_⟩, ?_, e36, ?_⟩
  · rw [e35]
    split
    · exact h2 _ (by omega) (by omega)
    · exact h3 j j0 j1
  · funext p
    unfold oT tT
    rw [e36, e35]
    by_cases z : 0 ≤ p ∧ p < V 33 1
    · rw [if_pos z, if_pos z, if_pos ⟨by omega, by omega⟩]
      congr 1
      omega
    · rw [if_neg z, if_neg z]
  · unfold W118
    rw [up_j (c' := 33) (by decide), up_c (by decide), cpy_c (by decide)]
theorem c_118 {n : Nat} {X : aX} {h : aH} {x1 x2 x3 : Int32} {a1 a2 a3 : Int} (S : wS h) (z1 : x1.toInt = a1) (z2 : x2.toInt = a2) (z3 : x3.toInt = a3) (hp : pre118 (vw h)) : Pt n X zM118 0 [some (.ref 33), some (.int x1), some (.int x2), some (.int x3), none] [] h (qI (fun y h' => wS h' ∧ R118 (vw h) a1 a2 a3 y (vw h'))) := by
  refine pt_d (d118_0 S z1 z2 z3 ⟨fun lt _ _ _ n0 _ g S2 eg => ?_, fun ge => ⟨S, Or.inl ⟨ge, rfl, rfl⟩⟩⟩)
  have eW : vw g = W118 (vw h) := by
    rw [eg, w32_id (by omega) (by omega)]
    unfold W118
    rw [Int.mul_comm]
  obtain ⟨w1, w2, w3, w4⟩ := W_pre hp n0 lt
  refine ⟨by rw [eW]; exact w1, fun y19 h19 k => ?_⟩
  obtain ⟨fr, q, f, p, ey⟩ := k.2
  rw [eW, w2] at p
  rw [eW, w3] at ey
  rw [eW] at fr
  have e7 : vw h19 33 7 = vw h 33 7 := by rw [fr 33 7 (Or.inr (by decide)), w4]
  subst ey
  refine ⟨fun e _ _ g2 S3 eg2 => ⟨S3, Or.inr ⟨⟨n0, lt⟩, q, f, p, Or.inl ⟨e, ?_, fun c j hcj => ?_⟩⟩⟩, fun e => ⟨k.1, Or.inr ⟨⟨n0, lt⟩, q, f, p, Or.inr ⟨e, rfl, fr⟩⟩⟩⟩
  · rw [e7, w32_id (z := vw h 33 7 + 1) (by omega) (by omega), w32_id (by omega) (by omega)]
    omega
  · rw [eg2, e7, w32_id (z := vw h 33 7 + 1) (by omega) (by omega)]
    have fc := fr c j hcj
    unfold up at *
    simp only [fc]
-- feeding
def fd (V : vS) (T L : Nat) (f v : Int) : Nat → vS
  | 0 => V
  | k + 1 => up (up (fd V T L f v k) T (V L f + (k : Int)) (w8 (w8 (bShr v (w32 (8 * (k : Int))))))) L f (V L f + (k : Int) + 1)
theorem fd_L {V : vS} {T L : Nat} {f v : Int} : ∀ k : Nat, fd V T L f v k L f = V L f + (k : Int)
  | 0 => by show V L f = V L f + 0; omega
  | k + 1 => by
    show up _ L f _ L f = _
    rw [up_s]
    omega
def R117 (V : vS) (m v r : Int) (V' : vS) : Prop := ∃ k : Nat, (k : Int) = (if m ≤ 0 then 0 else m) ∧ r = V 33 1 + (k : Int) ∧ V' = fd V 34 33 1 v k
theorem l_117 {X : aX} {V : vS} {m v : Int} (hb : 0 ≤ V 33 1 ∧ V 33 1 + m ≤ 160) (hm : 0 ≤ m) : ∀ (n : Nat) (h : aH) (x1 x2 x3 : Int32) (k : Nat), wS h → x1.toInt = m → x2.toInt = v → x3.toInt = (k : Int) → (k : Int) ≤ m → vw h = fd V 34 33 1 v k → Pt n X zM117 2 [some (.ref 33), some (.int x1), some (.int x2), some (.int x3)] [] h (qI (fun y h' => wS h' ∧ y = V 33 1 + m ∧ vw h' = fd V 34 33 1 v m.toNat)) := by
  intro n
  induction n with
  | zero => exact fun _ _ _ _ _ _ _ _ _ _ _ => pt_z
  | succ n ih =>
    intro h x1 x2 x3 k S h1 h2 h3 hk e
    have eL : vw h 33 1 = V 33 1 + (k : Int) := by rw [e]; exact fd_L k
    refine d117_2 S h1 h2 h3 ⟨fun e1 => ⟨S, by rw [eL]; omega, ?_⟩, fun e1 => ⟨fun e2 => by omega, fun e2 _ _ g S2 eg w3 g3 => ?_⟩⟩
    · rw [e]
      congr 1
      omega
    · replace g3 := w_1 g3 (by omega) (by omega)
      refine ih g x1 x2 w3 (k + 1) S2 h1 h2 (by omega) (by omega) ?_
      rw [eg, eL, e, w32_id (z := V 33 1 + (k : Int) + 1) (by omega) (by omega)]
      rfl
theorem c_117 {n : Nat} {X : aX} {h : aH} {x1 x2 : Int32} {a1 a2 : Int} (S : wS h) (z1 : x1.toInt = a1) (z2 : x2.toInt = a2) (hp : (0 ≤ vw h 33 1 ∧ vw h 33 1 + a1 ≤ 160) ∧ 0 ≤ a1) : Pt n X zM117 0 [some (.ref 33), some (.int x1), some (.int x2), none] [] h (qI (fun y h' => wS h' ∧ y = vw h 33 1 + a1 ∧ vw h' = fd (vw h) 34 33 1 a2 a1.toNat)) :=
  pt_d (d117_0 S z1 z2 (fun w3 g3 => l_117 hp.1 hp.2 n h x1 x2 w3 0 S z1 z2 g3 hp.2 rfl))
-- the text that stands
def stg (V : vS) (cw cy cd : Nat) (w y d : Int) : Nat → Int
  | 0 => -1
  | k + 1 => if V cw (k : Nat) = w ∧ V cy (k : Nat) ≤ y ∧ V cd (k : Nat) ≤ d then (k : Nat) else stg V cw cy cd w y d k
theorem l_120 {X : aX} {h : aH} {w y d : Int} (S : wS h) : ∀ (n : Nat) (x1 x2 x3 x4 : Int32) (k : Nat), x1.toInt = w → x2.toInt = y → x3.toInt = d → k ≤ 16 → x4.toInt = (k : Int) - 1 → Pt n X zM120 8 [some (.ref 33), some (.int x1), some (.int x2), some (.int x3), some (.int x4)] [] h (qI (fun r h' => h' = h ∧ r = stg (vw h) 37 38 39 w y d k)) := by
  intro n
  induction n with
  | zero => exact fun _ _ _ _ _ _ _ _ _ _ => pt_z
  | succ n ih =>
    intro x1 x2 x3 x4 k h1 h2 h3 hk h4
    have next : ∀ (i : Nat) (w4 : Int32), k = i + 1 → ¬ (vw h 37 (i : Nat) = w ∧ vw h 38 (i : Nat) ≤ y ∧ vw h 39 (i : Nat) ≤ d) → w4.toInt = w32 ((i : Int) + (-1)) → Pt n X zM120 8 [some (.ref 33), some (.int x1), some (.int x2), some (.int x3), some (.int w4)] [] h (qI (fun r h' => h' = h ∧ r = stg (vw h) 37 38 39 w y d k)) := by
      intro i w4 ek no g4
      replace g4 := w_1 g4 (by omega) (by omega)
      refine pt_q (ih x1 x2 x3 w4 i h1 h2 h3 (by omega) (by omega)) ?_
      rintro v h' ⟨x, ex, p1, p2⟩
      refine ⟨x, ex, p1, ?_⟩
      rw [p2, ek]
      exact (if_neg no).symm
    obtain rfl | ⟨i, rfl⟩ : k = 0 ∨ ∃ i, k = i + 1 := by
      cases k with
      | zero => exact Or.inl rfl
      | succ i => exact Or.inr ⟨i, rfl⟩
    · exact d120_8 S h1 h2 h3 h4 ⟨fun _ => ⟨rfl, rfl⟩, fun e => by omega⟩
    · have h4 : x4.toInt = (i : Int) := by omega
      refine d120_8 S h1 h2 h3 h4 ⟨fun e => by omega, fun _ _ _ => ⟨fun e w4 g4 => next i w4 rfl (fun z => e z.1) g4, fun e => ⟨fun e2 w4 g4 => next i w4 rfl (fun z => by omega) g4, fun e2 => ⟨fun e3 w4 g4 => next i w4 rfl (fun z => by omega) g4, fun e3 => ⟨rfl, ?_⟩⟩⟩⟩⟩
      exact (if_pos ⟨e, e2, e3⟩).symm
theorem c_120 {n : Nat} {X : aX} {h : aH} {x1 x2 x3 : Int32} {a1 a2 a3 : Int} (S : wS h) (z1 : x1.toInt = a1) (z2 : x2.toInt = a2) (z3 : x3.toInt = a3) (hp : 0 ≤ vw h 33 7 ∧ vw h 33 7 ≤ 16) : Pt n X zM120 0 [some (.ref 33), some (.int x1), some (.int x2), some (.int x3), none] [] h (qI (fun y h' => h' = h ∧ y = stg (vw h) 37 38 39 a1 a2 a3 (vw h 33 7).toNat)) :=
  pt_d (d120_0 S z1 z2 z3 (fun w4 g4 => l_120 S n x1 x2 x3 w4 _ z1 z2 z3 (by omega) (by rw [g4, w32_id (by omega) (by omega)]; omega)))
def isU (w : Int) : Prop := (0 ≤ w ∧ w ≤ 33) ∧ w % 10 ≤ 3
theorem c_143 {n : Nat} {X : aX} {h : aH} {x0 : Int32} {a0 : Int} (S : wS h) (z0 : x0.toInt = a0) : Pt n X zM143 0 [some (.int x0)] [] h (qI (fun y h' => h' = h ∧ y = bI (isU a0))) := by
  have r := iR x0
  rw [z0] at r
  refine pt_d (d143_0 S z0 ⟨fun e => ⟨rfl, (bI_f (fun z => by have := z.1; omega)).symm⟩, fun e => ?_⟩)
  rw [iDiv_pos e r.2 (by decide) (by decide), iRem_pos e r.2 (by decide) (by decide)]
  exact ⟨fun e2 => ⟨rfl, (bI_f (fun z => by have := z.1; omega)).symm⟩, fun e2 => ⟨fun e3 => ⟨rfl, (bI_f (fun z => by have := z.2; omega)).symm⟩, fun e3 => ⟨rfl, (bI_t ⟨by omega, by omega⟩).symm⟩⟩⟩

theorem d167_0 {n : Nat} {X : aX} {h : aH} {P : Int → aH → Prop} {x1 x2 : Int32} {a1 a2 : Int} (S : wS h) (z1 : x1.toInt = a1) (z2 : x2.toInt = a2) (H : (((1 ≤ a1 ∧ a1 ≤ 4) → ((w32 ((vw h 33 1) + a1) ≤ 160 → (((0 ≤ vw h 33 1 ∧ vw h 33 1 + a1 ≤ 160) ∧ 0 ≤ a1) ∧ ∀ (y11 : Int) (h_11 : aH), (wS h_11 ∧ y11 = vw h 33 1 + a1 ∧ vw h_11 = fd (vw h) 34 33 1 a2 (a1 : Int).toNat) → P y11 h_11)) ∧ (160 < w32 ((vw h 33 1) + a1) → P (-3) h))) ∧ (¬ (1 ≤ a1 ∧ a1 ≤ 4) → P (-1) h))) : Pt (n + 1) X zM167 0 [some (.ref 0), some (.int x1), some (.int x2)] [] h (qI P) := by
  refine pt_1 (fun n d => r_iloadn gx167_0 rfl) ?_
  refine pt_d (pt_iconst gx167_1 (fun v1 h1 => ?_))
  refine pt_d (pt_iconst gx167_2 (fun v2 h2 => ?_))
  refine pt_d (pt_stat (as := [.int x1, .int v1, .int v2]) (r := []) gx167_3 rfl (show zmt[137]? = some zM137 from rfl) rfl rfl rfl rfl (c_137 S z1 h1 h2) (kqP (fun v3 h3 => ?_)))
  show Pt _ _ _ 6 _ [.int v3] _ _
  refine pt_d (pt_ifB_ne gx167_6 h3 (fun e4 => ?_) (fun e4 => ?_))
  · have H := H.1 e4
    refine pt_d (pt_1 (fun n d => r_aloadn gx167_11 rfl) ?_)
    refine pt_d (pt_getR gx167_12 S tr_0_3 ?_)
    refine pt_d (pt_getI (B := 1) gx167_15 S (fun v6 h6 => ?_))
    refine pt_d (pt_1 (fun n d => r_iloadn gx167_18 rfl) ?_)
    refine pt_d (pt_iadd gx167_19 h6 z1 (fun v7 h7 => ?_))
    refine pt_d (pt_sipush gx167_20 (fun v8 h8 => ?_))
    refine pt_d (pt_icmp_le gx167_23 h7 h8 (fun e9 => ?_) (fun e9 => ?_))
    · have H := H.1 e9
      refine pt_d (pt_1 (fun n d => r_aloadn gx167_31 rfl) ?_)
      refine pt_d (pt_getR gx167_32 S tr_0_3 ?_)
      refine pt_d (pt_1 (fun n d => r_iloadn gx167_35 rfl) ?_)
      refine pt_d (pt_1 (fun n d => r_iloadn gx167_36 rfl) ?_)
      obtain ⟨pr11, H⟩ := H
      refine pt_d (pt_virt (as := [.int x1, .int x2]) (r := []) gx167_37 rfl (show zmt[117]? = some zM117 from rfl) rfl rfl rfl rfl (c_117 S z1 z2 pr11) (kqI (fun v11 y11 h_11 h11 P11 => ?_)))
      have S11 := P11.1
      have H := H y11 h_11 P11
      show Pt _ _ _ 40 _ [.int v11] _ _
      exact pt_d (pt_iret gx167_40 ⟨_, rfl, by rw [h11]; exact H⟩)
    · have H := H.2 e9
      refine pt_d (pt_bipush gx167_26 (fun v12 h12 => ?_))
      refine pt_d (pt_1 (fun n d => r_goto gx167_28) ?_)
      exact pt_d (pt_iret gx167_40 ⟨_, rfl, by rw [h12]; exact H⟩)
  · have H := H.2 e4
    refine pt_d (pt_iconst gx167_9 (fun v13 h13 => ?_))
    exact pt_d (pt_iret gx167_10 ⟨_, rfl, by rw [h13]; exact H⟩)
theorem d168_0 {n : Nat} {X : aX} {h : aH} {P : Int → aH → Prop} {x1 x2 : Int32} {a1 a2 : Int} (S : wS h) (z1 : x1.toInt = a1) (z2 : x2.toInt = a2) (H : ((¬ (isU a1) → P (-1) h) ∧ ((isU a1) → (((0 ≤ a2 ∧ a2 ≤ 9) → ((vw h 33 7 < 16 → ((pre118 (vw h)) ∧ ∀ (y13 : Int) (h_13 : aH), (wS h_13 ∧ R118 (vw h) a1 a2 (vw h 1 0) y13 (vw h_13)) → P y13 h_13)) ∧ (16 ≤ vw h 33 7 → P (-3) h))) ∧ (¬ (0 ≤ a2 ∧ a2 ≤ 9) → P (-1) h))))) : Pt (n + 1) X zM168 0 [some (.ref 0), some (.int x1), some (.int x2)] [] h (qI P) := by
  refine pt_1 (fun n d => r_iloadn gx168_0 rfl) ?_
  refine pt_d (pt_stat (as := [.int x1]) (r := []) gx168_1 rfl (show zmt[143]? = some zM143 from rfl) rfl rfl rfl rfl (c_143 S z1) (kqP (fun v1 h1 => ?_)))
  show Pt _ _ _ 4 _ [.int v1] _ _
  refine pt_d (pt_ifB_eq gx168_4 h1 (fun e2 => ?_) (fun e2 => ?_))
  · have H := H.1 e2
    refine pt_d (pt_iconst gx168_14 (fun v3 h3 => ?_))
    exact pt_d (pt_iret gx168_15 ⟨_, rfl, by rw [h3]; exact H⟩)
  · have H := H.2 e2
    refine pt_d (pt_1 (fun n d => r_iloadn gx168_7 rfl) ?_)
    refine pt_d (pt_stat (as := [.int x2]) (r := []) gx168_8 rfl (show zmt[139]? = some zM139 from rfl) rfl rfl rfl rfl (c_139 S z2) (kqP (fun v4 h4 => ?_)))
    show Pt _ _ _ 11 _ [.int v4] _ _
    refine pt_d (pt_ifB_ne gx168_11 h4 (fun e5 => ?_) (fun e5 => ?_))
    · have H := H.1 e5
      refine pt_d (pt_1 (fun n d => r_aloadn gx168_16 rfl) ?_)
      refine pt_d (pt_getR gx168_17 S tr_0_3 ?_)
      refine pt_d (pt_getI (B := 7) gx168_20 S (fun v7 h7 => ?_))
      refine pt_d (pt_bipush gx168_23 (fun v8 h8 => ?_))
      refine pt_d (pt_icmp_lt gx168_25 h7 h8 (fun e9 => ?_) (fun e9 => ?_))
      · have H := H.1 e9
        refine pt_d (pt_1 (fun n d => r_aloadn gx168_33 rfl) ?_)
        refine pt_d (pt_getR gx168_34 S tr_0_3 ?_)
        refine pt_d (pt_1 (fun n d => r_iloadn gx168_37 rfl) ?_)
        refine pt_d (pt_1 (fun n d => r_iloadn gx168_38 rfl) ?_)
        refine pt_d (pt_1 (fun n d => r_aloadn gx168_39 rfl) ?_)
        refine pt_d (pt_getR gx168_40 S tr_0_0 ?_)
        refine pt_d (pt_getI (B := 0) gx168_43 S (fun v12 h12 => ?_))
        obtain ⟨pr13, H⟩ := H
        refine pt_d (pt_virt (as := [.int x1, .int x2, .int v12]) (r := []) gx168_46 rfl (show zmt[118]? = some zM118 from rfl) rfl rfl rfl rfl (c_118 S z1 z2 h12 pr13) (kqI (fun v13 y13 h_13 h13 P13 => ?_)))
        have S13 := P13.1
        have H := H y13 h_13 P13
        show Pt _ _ _ 49 _ [.int v13] _ _
        exact pt_d (pt_iret gx168_49 ⟨_, rfl, by rw [h13]; exact H⟩)
      · have H := H.2 e9
        refine pt_d (pt_bipush gx168_28 (fun v14 h14 => ?_))
        refine pt_d (pt_1 (fun n d => r_goto gx168_30) ?_)
        exact pt_d (pt_iret gx168_49 ⟨_, rfl, by rw [h14]; exact H⟩)
    · have H := H.2 e5
      refine pt_d (pt_iconst gx168_14 (fun v15 h15 => ?_))
      exact pt_d (pt_iret gx168_15 ⟨_, rfl, by rw [h15]; exact H⟩)
theorem d169_0 {n : Nat} {X : aX} {h : aH} {P : Int → aH → Prop} {x1 x2 x3 : Int32} {a1 a2 a3 : Int} (S : wS h) (z1 : x1.toInt = a1) (z2 : x2.toInt = a2) (z3 : x3.toInt = a3) (H : ((¬ (isU a1) → P (-1) h) ∧ ((isU a1) → ((¬ (0 ≤ a2 ∧ a2 ≤ 9) → P (-1) h) ∧ ((0 ≤ a2 ∧ a2 ≤ 9) → (((0 ≤ a3 ∧ a3 ≤ 3649) → ((0 ≤ vw h 33 7 ∧ vw h 33 7 ≤ 16) ∧ ((stg (vw h) 37 38 39 a1 a2 a3 ((vw h) 33 7).toNat ≠ (-1) → P (stg (vw h) 37 38 39 a1 a2 a3 ((vw h) 33 7).toNat) h) ∧ (stg (vw h) 37 38 39 a1 a2 a3 ((vw h) 33 7).toNat = (-1) → P (-2) h)))) ∧ (¬ (0 ≤ a3 ∧ a3 ≤ 3649) → P (-1) h))))))) : Pt (n + 1) X zM169 0 [some (.ref 0), some (.int x1), some (.int x2), some (.int x3), none] [] h (qI P) := by
  refine pt_1 (fun n d => r_iloadn gx169_0 rfl) ?_
  refine pt_d (pt_stat (as := [.int x1]) (r := []) gx169_1 rfl (show zmt[143]? = some zM143 from rfl) rfl rfl rfl rfl (c_143 S z1) (kqP (fun v1 h1 => ?_)))
  show Pt _ _ _ 4 _ [.int v1] _ _
  refine pt_d (pt_ifB_eq gx169_4 h1 (fun e2 => ?_) (fun e2 => ?_))
  · have H := H.1 e2
    refine pt_d (pt_iconst gx169_21 (fun v3 h3 => ?_))
    exact pt_d (pt_iret gx169_22 ⟨_, rfl, by rw [h3]; exact H⟩)
  · have H := H.2 e2
    refine pt_d (pt_1 (fun n d => r_iloadn gx169_7 rfl) ?_)
    refine pt_d (pt_stat (as := [.int x2]) (r := []) gx169_8 rfl (show zmt[139]? = some zM139 from rfl) rfl rfl rfl rfl (c_139 S z2) (kqP (fun v4 h4 => ?_)))
    show Pt _ _ _ 11 _ [.int v4] _ _
    refine pt_d (pt_ifB_eq gx169_11 h4 (fun e5 => ?_) (fun e5 => ?_))
    · have H := H.1 e5
      refine pt_d (pt_iconst gx169_21 (fun v6 h6 => ?_))
      exact pt_d (pt_iret gx169_22 ⟨_, rfl, by rw [h6]; exact H⟩)
    · have H := H.2 e5
      refine pt_d (pt_1 (fun n d => r_iloadn gx169_14 rfl) ?_)
      refine pt_d (pt_stat (as := [.int x3]) (r := []) gx169_15 rfl (show zmt[138]? = some zM138 from rfl) rfl rfl rfl rfl (c_138 S z3) (kqP (fun v7 h7 => ?_)))
      show Pt _ _ _ 18 _ [.int v7] _ _
      refine pt_d (pt_ifB_ne gx169_18 h7 (fun e8 => ?_) (fun e8 => ?_))
      · have H := H.1 e8
        refine pt_d (pt_1 (fun n d => r_aloadn gx169_23 rfl) ?_)
        refine pt_d (pt_getR gx169_24 S tr_0_3 ?_)
        refine pt_d (pt_1 (fun n d => r_iloadn gx169_27 rfl) ?_)
        refine pt_d (pt_1 (fun n d => r_iloadn gx169_28 rfl) ?_)
        refine pt_d (pt_1 (fun n d => r_iloadn gx169_29 rfl) ?_)
        obtain ⟨pr10, H⟩ := H
        refine pt_d (pt_virt (as := [.int x1, .int x2, .int x3]) (r := []) gx169_30 rfl (show zmt[120]? = some zM120 from rfl) rfl rfl rfl rfl (c_120 S z1 z2 z3 pr10) (kqP (fun v10 h10 => ?_)))
        show Pt _ _ _ 33 _ [.int v10] _ _
        refine pt_d (pt_1 (fun n d => r_istore (L' := [some (.ref 0), some (.int x1), some (.int x2), some (.int x3), some (.int v10)]) gx169_33 rfl rfl) ?_)
        refine pt_d (pt_1 (fun n d => r_iload gx169_35 rfl) ?_)
        refine pt_d (pt_iconst gx169_37 (fun v11 h11 => ?_))
        refine pt_d (pt_icmp_ne gx169_38 h10 h11 (fun e12 => ?_) (fun e12 => ?_))
        · have H := H.1 e12
          refine pt_d (pt_1 (fun n d => r_iload gx169_46 rfl) ?_)
          exact pt_d (pt_iret gx169_48 ⟨_, rfl, by rw [h10]; exact H⟩)
        · have H := H.2 e12
          refine pt_d (pt_bipush gx169_41 (fun v13 h13 => ?_))
          refine pt_d (pt_1 (fun n d => r_goto gx169_43) ?_)
          exact pt_d (pt_iret gx169_48 ⟨_, rfl, by rw [h13]; exact H⟩)
      · have H := H.2 e8
        refine pt_d (pt_iconst gx169_21 (fun v14 h14 => ?_))
        exact pt_d (pt_iret gx169_22 ⟨_, rfl, by rw [h14]; exact H⟩)
def R167 (V : vS) (m v r : Int) (V' : vS) : Prop := (¬ (1 ≤ m ∧ m ≤ 4) ∧ r = -1 ∧ V' = V) ∨ ((1 ≤ m ∧ m ≤ 4) ∧ ((160 < V 33 1 + m ∧ r = -3 ∧ V' = V) ∨ (V 33 1 + m ≤ 160 ∧ r = V 33 1 + m ∧ V' = fd V 34 33 1 v m.toNat)))
theorem c_167 {n : Nat} {X : aX} {h : aH} {x1 x2 : Int32} {a1 a2 : Int} (S : wS h) (z1 : x1.toInt = a1) (z2 : x2.toInt = a2) (hp : 0 ≤ vw h 33 1 ∧ vw h 33 1 ≤ 160) : Pt n X zM167 0 [some (.ref 0), some (.int x1), some (.int x2)] [] h (qI (fun y h' => R167 (vw h) a1 a2 y (vw h'))) := by
  refine pt_d (d167_0 S z1 z2 ⟨fun e => ?_, fun e => Or.inl ⟨e, rfl, rfl⟩⟩)
  rw [w32_id (by omega) (by omega)]
  exact ⟨fun e2 => ⟨⟨⟨hp.1, e2⟩, by omega⟩, fun y h11 k => Or.inr ⟨e, Or.inr ⟨e2, k.2.1, k.2.2⟩⟩⟩, fun e2 => Or.inr ⟨e, Or.inl ⟨e2, rfl, rfl⟩⟩⟩
def R168 (V : vS) (w y r : Int) (V' : vS) : Prop := (¬ (isU w ∧ 0 ≤ y ∧ y ≤ 9) ∧ r = -1 ∧ V' = V) ∨ ((isU w ∧ 0 ≤ y ∧ y ≤ 9) ∧ R118 V w y (V 1 0) r V')
theorem c_168 {n : Nat} {X : aX} {h : aH} {x1 x2 : Int32} {a1 a2 : Int} (S : wS h) (z1 : x1.toInt = a1) (z2 : x2.toInt = a2) (hp : pre118 (vw h)) : Pt n X zM168 0 [some (.ref 0), some (.int x1), some (.int x2)] [] h (qI (fun y h' => R168 (vw h) a1 a2 y (vw h'))) :=
  pt_d (d168_0 S z1 z2 ⟨fun e => Or.inl ⟨fun z => e z.1, rfl, rfl⟩, fun e => ⟨fun e2 => ⟨fun _ => ⟨hp, fun y g k => Or.inr ⟨⟨e, e2⟩, k.2⟩⟩, fun e3 => Or.inr ⟨⟨e, e2⟩, Or.inl ⟨e3, rfl, rfl⟩⟩⟩, fun e2 => Or.inl ⟨fun z => e2 z.2, rfl, rfl⟩⟩⟩)
def R169 (V : vS) (w y d r : Int) : Prop := (¬ (isU w ∧ (0 ≤ y ∧ y ≤ 9) ∧ 0 ≤ d ∧ d ≤ 3649) ∧ r = -1) ∨ ((isU w ∧ (0 ≤ y ∧ y ≤ 9) ∧ 0 ≤ d ∧ d ≤ 3649) ∧ ((stg V 37 38 39 w y d (V 33 7).toNat ≠ -1 ∧ r = stg V 37 38 39 w y d (V 33 7).toNat) ∨ (stg V 37 38 39 w y d (V 33 7).toNat = -1 ∧ r = -2)))
theorem c_169 {n : Nat} {X : aX} {h : aH} {x1 x2 x3 : Int32} {a1 a2 a3 : Int} (S : wS h) (z1 : x1.toInt = a1) (z2 : x2.toInt = a2) (z3 : x3.toInt = a3) (hp : 0 ≤ vw h 33 7 ∧ vw h 33 7 ≤ 16) : Pt n X zM169 0 [some (.ref 0), some (.int x1), some (.int x2), some (.int x3), none] [] h (qI (fun y h' => h' = h ∧ R169 (vw h) a1 a2 a3 y)) :=
  pt_d (d169_0 S z1 z2 z3 ⟨fun e => ⟨rfl, Or.inl ⟨fun z => e z.1, rfl⟩⟩, fun e => ⟨fun e2 => ⟨rfl, Or.inl ⟨fun z => e2 z.2.1, rfl⟩⟩, fun e2 => ⟨fun e3 => ⟨hp, fun e4 => ⟨rfl, Or.inr ⟨⟨e, e2, e3⟩, Or.inl ⟨e4, rfl⟩⟩⟩, fun e4 => ⟨rfl, Or.inr ⟨⟨e, e2, e3⟩, Or.inr ⟨e4, rfl⟩⟩⟩⟩, fun e3 => ⟨rfl, Or.inl ⟨fun z => e3 z.2.2, rfl⟩⟩⟩⟩⟩)


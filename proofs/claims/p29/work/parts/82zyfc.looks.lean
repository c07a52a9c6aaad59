-- ===== what a field looks like =====
theorem d42_0 {n : Nat} {X : aX} {h : aH} {P : Int → aH → Prop} {x1 x2 x3 : Int32} {a1 a2 a3 : Int} (S : wS h) (z1 : x1.toInt = a1) (z2 : x2.toInt = a2) (z3 : x3.toInt = a3) (H : ((0 ≤ a1 → vw h 65 a1 = -1 → P (-2) h) ∧ (∀ q2 : Nat, 0 ≤ a1 → (q2 : Int) = vw h 65 a1 → (lkCl (vw h) q2 a2 0 ∧ ((cAp (vw h) q2 a2 0 ≠ (-1) → (∀ (w5 : Int32) (w6 : Int32) (w7 : Int32) (w8 : Int32) (u9_ : Option Value), w5.toInt = cAp (vw h) q2 a2 0 → w6.toInt = 0 → w7.toInt = 2147483647 → w8.toInt = 1 → Pt n X zM42 45 [some (.ref 63), some (.int x1), some (.int x2), some (.int x3), some (.ref q2), some (.int w5), some (.int w6), some (.int w7), some (.int w8), u9_] [] h (qI P))) ∧ (cAp (vw h) q2 a2 0 = (-1) → P (-2) h)))))) : Pt (n + 1) X zM42 0 [some (.ref 63), some (.int x1), some (.int x2), some (.int x3), none, none, none, none, none, none] [] h (qI P) := by
  refine pt_1 (fun n d => r_aloadn gx42_0 rfl) ?_
  refine pt_d (pt_getR gx42_1 S tr_63_2 ?_)
  refine pt_d (pt_1 (fun n d => r_iloadn gx42_4 rfl) ?_)
  refine pt_d (pt_aald gx42_5 z1 (fun p2 k2 => ?_) (fun q2 p2 k2 => ?_))
  · have H := H.1 p2 k2
    refine pt_d (pt_1 (fun n d => r_astoreN (L' := [some (.ref 63), some (.int x1), some (.int x2), some (.int x3), some (.null), none, none, none, none, none]) gx42_6 rfl rfl) ?_)
    refine pt_d (pt_1 (fun n d => r_aloadN gx42_8 rfl) ?_)
    refine pt_d (pt_1 (fun n d => r_ifnonnull_n gx42_10) ?_)
    refine pt_d (pt_bipush gx42_13 (fun v3 h3 => ?_))
    exact pt_d (pt_iret gx42_15 ⟨_, rfl, by rw [h3]; exact H⟩)
  · have H := H.2 q2 p2 k2
    refine pt_d (pt_1 (fun n d => r_astore (L' := [some (.ref 63), some (.int x1), some (.int x2), some (.int x3), some (.ref q2), none, none, none, none, none]) gx42_6 rfl rfl) ?_)
    refine pt_d (pt_1 (fun n d => r_aload gx42_8 rfl) ?_)
    refine pt_d (pt_1 (fun n d => r_ifnonnull_r gx42_10) ?_)
    refine pt_d (pt_1 (fun n d => r_aloadn gx42_16 rfl) ?_)
    refine pt_d (pt_iconst gx42_17 (fun v4 h4 => ?_))
    refine pt_d (pt_1 (fun n d => r_aload gx42_18 rfl) ?_)
    refine pt_d (pt_1 (fun n d => r_iloadn gx42_20 rfl) ?_)
    obtain ⟨pr5, H⟩ := H
    refine pt_d (pt_virt (as := [.int v4, .ref q2, .int x2]) (r := []) gx42_21 rfl (show zmt[43]? = some zM43 from rfl) rfl rfl rfl rfl (c_43 S h4 z2 pr5) (kqP (fun v5 h5 => ?_)))
    show Pt _ _ _ 24 _ [.int v5] _ _
    refine pt_d (pt_1 (fun n d => r_istore (L' := [some (.ref 63), some (.int x1), some (.int x2), some (.int x3), some (.ref q2), some (.int v5), none, none, none, none]) gx42_24 rfl rfl) ?_)
    refine pt_d (pt_1 (fun n d => r_iload gx42_26 rfl) ?_)
    refine pt_d (pt_iconst gx42_28 (fun v6 h6 => ?_))
    refine pt_d (pt_icmp_ne gx42_29 h5 h6 (fun e7 => ?_) (fun e7 => ?_))
    · have H := H.1 e7
      refine pt_d (pt_iconst gx42_35 (fun v8 h8 => ?_))
      refine pt_d (pt_1 (fun n d => r_istore (L' := [some (.ref 63), some (.int x1), some (.int x2), some (.int x3), some (.ref q2), some (.int v5), some (.int v8), none, none, none]) gx42_36 rfl rfl) ?_)
      refine pt_d (pt_ldc (c := 2147483647) gx42_38 rfl (fun v9 h9 => ?_))
      refine pt_d (pt_1 (fun n d => r_istore (L' := [some (.ref 63), some (.int x1), some (.int x2), some (.int x3), some (.ref q2), some (.int v5), some (.int v8), some (.int v9), none, none]) gx42_40 rfl rfl) ?_)
      refine pt_d (pt_iconst gx42_42 (fun v10 h10 => ?_))
      refine pt_d (pt_1 (fun n d => r_istore (L' := [some (.ref 63), some (.int x1), some (.int x2), some (.int x3), some (.ref q2), some (.int v5), some (.int v8), some (.int v9), some (.int v10), none]) gx42_43 rfl rfl) ?_)
      exact H v5 v8 v9 v10 _ h5 h8 h9 h10
    · have H := H.2 e7
      refine pt_d (pt_bipush gx42_32 (fun v11 h11 => ?_))
      exact pt_d (pt_iret gx42_34 ⟨_, rfl, by rw [h11]; exact H⟩)
theorem d42_45 {n : Nat} {X : aX} {h : aH} {P : Int → aH → Prop} {x1 x2 x3 x5 x6 x7 x8 : Int32} {a1 a2 a3 a5 a6 a7 a8 : Int} {u9 : Option Value} {q4 : Nat} (S : wS h) (z1 : x1.toInt = a1) (z2 : x2.toInt = a2) (z3 : x3.toInt = a3) (z5 : x5.toInt = a5) (z6 : x6.toInt = a6) (z7 : x7.toInt = a7) (z8 : x8.toInt = a8) (H : ((8 ≤ a8 → ((a3 ≠ 0 → P (w32 (a7 - a5)) h) ∧ (a3 = 0 → P a6 h))) ∧ (a8 < 8 → (lkCl (vw h) q4 a2 a8 ∧ ((a5 ≤ cAp (vw h) q4 a2 a8 → (∀ (w7 : Int32) (w8 : Int32) (u9_ : Option Value), w7.toInt = min a7 (cAp (vw h) q4 a2 a8) → w8.toInt = w32 (a8 + 1) → Pt n X zM42 45 [some (.ref 63), some (.int x1), some (.int x2), some (.int x3), some (.ref q4), some (.int x5), some (.int x6), some (.int w7), some (.int w8), u9_] [] h (qI P))) ∧ (cAp (vw h) q4 a2 a8 < a5 → (∀ (w5 : Int32) (w8 : Int32) (u9_ : Option Value), w5.toInt = cAp (vw h) q4 a2 a8 → w8.toInt = w32 (a8 + 1) → Pt n X zM42 45 [some (.ref 63), some (.int x1), some (.int x2), some (.int x3), some (.ref q4), some (.int w5), some (.int x8), some (.int x5), some (.int w8), u9_] [] h (qI P)))))))) : Pt (n + 1) X zM42 45 [some (.ref 63), some (.int x1), some (.int x2), some (.int x3), some (.ref q4), some (.int x5), some (.int x6), some (.int x7), some (.int x8), u9] [] h (qI P) := by
  refine pt_1 (fun n d => r_iload gx42_45 rfl) ?_
  refine pt_d (pt_bipush gx42_47 (fun v1 h1 => ?_))
  refine pt_d (pt_icmp_ge gx42_49 z8 h1 (fun e2 => ?_) (fun e2 => ?_))
  · have H := H.1 e2
    refine pt_d (pt_1 (fun n d => r_iloadn gx42_100 rfl) ?_)
    refine pt_d (pt_if_ne gx42_101 z3 (fun e3 => ?_) (fun e3 => ?_))
    · have H := H.1 e3
      refine pt_d (pt_1 (fun n d => r_iload gx42_109 rfl) ?_)
      refine pt_d (pt_1 (fun n d => r_iload gx42_111 rfl) ?_)
      refine pt_d (pt_isub gx42_113 z7 z5 (fun v4 h4 => ?_))
      exact pt_d (pt_iret gx42_114 ⟨_, rfl, by rw [h4]; exact H⟩)
    · have H := H.2 e3
      refine pt_d (pt_1 (fun n d => r_iload gx42_104 rfl) ?_)
      refine pt_d (pt_1 (fun n d => r_goto gx42_106) ?_)
      exact pt_d (pt_iret gx42_114 ⟨_, rfl, by rw [z6]; exact H⟩)
  · have H := H.2 e2
    refine pt_d (pt_1 (fun n d => r_aloadn gx42_52 rfl) ?_)
    refine pt_d (pt_1 (fun n d => r_iload gx42_53 rfl) ?_)
    refine pt_d (pt_1 (fun n d => r_aload gx42_55 rfl) ?_)
    refine pt_d (pt_1 (fun n d => r_iloadn gx42_57 rfl) ?_)
    obtain ⟨pr5, H⟩ := H
    refine pt_d (pt_virt (as := [.int x8, .ref q4, .int x2]) (r := []) gx42_58 rfl (show zmt[43]? = some zM43 from rfl) rfl rfl rfl rfl (c_43 S z8 z2 pr5) (kqP (fun v5 h5 => ?_)))
    show Pt _ _ _ 61 _ [.int v5] _ _
    refine pt_d (pt_1 (fun n d => r_istore (L' := [some (.ref 63), some (.int x1), some (.int x2), some (.int x3), some (.ref q4), some (.int x5), some (.int x6), some (.int x7), some (.int x8), some (.int v5)]) gx42_61 rfl rfl) ?_)
    refine pt_d (pt_1 (fun n d => r_iload gx42_63 rfl) ?_)
    refine pt_d (pt_1 (fun n d => r_iload gx42_65 rfl) ?_)
    refine pt_d (pt_icmp_ge gx42_67 h5 z5 (fun e6 => ?_) (fun e6 => ?_))
    · have H := H.1 e6
      refine pt_d (pt_1 (fun n d => r_iload gx42_85 rfl) ?_)
      refine pt_d (pt_1 (fun n d => r_iload gx42_87 rfl) ?_)
      refine pt_d (pt_min gx42_89 rfl z7 h5 (fun v7 h7 => ?_))
      refine pt_d (pt_1 (fun n d => r_istore (L' := [some (.ref 63), some (.int x1), some (.int x2), some (.int x3), some (.ref q4), some (.int x5), some (.int x6), some (.int v7), some (.int x8), some (.int v5)]) gx42_92 rfl rfl) ?_)
      refine pt_d (pt_iinc (c := 1) gx42_94 rfl z8 (fun v8 h8 => ?_))
      show Pt _ _ _ _ [some (.ref 63), some (.int x1), some (.int x2), some (.int x3), some (.ref q4), some (.int x5), some (.int x6), some (.int v7), some (.int v8), some (.int v5)] [] _ _
      refine pt_d (pt_1 (fun n d => r_goto gx42_97) ?_)
      exact H v7 v8 _ h7 h8
    · have H := H.2 e6
      refine pt_d (pt_1 (fun n d => r_iload gx42_70 rfl) ?_)
      refine pt_d (pt_1 (fun n d => r_istore (L' := [some (.ref 63), some (.int x1), some (.int x2), some (.int x3), some (.ref q4), some (.int x5), some (.int x6), some (.int x5), some (.int x8), some (.int v5)]) gx42_72 rfl rfl) ?_)
      refine pt_d (pt_1 (fun n d => r_iload gx42_74 rfl) ?_)
      refine pt_d (pt_1 (fun n d => r_istore (L' := [some (.ref 63), some (.int x1), some (.int x2), some (.int x3), some (.ref q4), some (.int v5), some (.int x6), some (.int x5), some (.int x8), some (.int v5)]) gx42_76 rfl rfl) ?_)
      refine pt_d (pt_1 (fun n d => r_iload gx42_78 rfl) ?_)
      refine pt_d (pt_1 (fun n d => r_istore (L' := [some (.ref 63), some (.int x1), some (.int x2), some (.int x3), some (.ref q4), some (.int v5), some (.int x8), some (.int x5), some (.int x8), some (.int v5)]) gx42_80 rfl rfl) ?_)
      refine pt_d (pt_1 (fun n d => r_goto gx42_82) ?_)
      refine pt_d (pt_iinc (c := 1) gx42_94 rfl z8 (fun v9 h9 => ?_))
      show Pt _ _ _ _ [some (.ref 63), some (.int x1), some (.int x2), some (.int x3), some (.ref q4), some (.int v5), some (.int x8), some (.int x5), some (.int v9), some (.int v5)] [] _ _
      refine pt_d (pt_1 (fun n d => r_goto gx42_97) ?_)
      exact H v5 v9 _ h5 h9
theorem d249_0 {n : Nat} {X : aX} {h : aH} {P : Int → aH → Prop} {x1 x2 x3 : Int32} {a1 a2 a3 : Int} (S : wS h) (z1 : x1.toInt = a1) (z2 : x2.toInt = a2) (z3 : x3.toInt = a3) (H : ((¬ (mField (vw h) a1) → P (-1) h) ∧ ((mField (vw h) a1) → ((¬ (0 ≤ a2 ∧ a2 ≤ 9) → P (-1) h) ∧ ((0 ≤ a2 ∧ a2 ≤ 9) → (((0 ≤ a3 ∧ a3 ≤ 1) → (∀ (w4 : Int32) (w5 : Int32), w4.toInt = 0 → w5.toInt = 0 → Pt n X zM249 32 [some (.ref 72), some (.int x1), some (.int x2), some (.int x3), some (.int w4), some (.int w5), none, none] [] h (qI P))) ∧ (¬ (0 ≤ a3 ∧ a3 ≤ 1) → P (-1) h))))))) : Pt (n + 1) X zM249 0 [some (.ref 72), some (.int x1), some (.int x2), some (.int x3), none, none, none, none] [] h (qI P) := by
  refine pt_1 (fun n d => r_aloadn gx249_0 rfl) ?_
  refine pt_d (pt_1 (fun n d => r_iloadn gx249_1 rfl) ?_)
  refine pt_d (pt_virt (as := [.int x1]) (r := []) gx249_2 rfl (show zmt[203]? = some zM203 from rfl) rfl rfl rfl rfl (c_203 S z1) (kqP (fun v1 h1 => ?_)))
  show Pt _ _ _ 5 _ [.int v1] _ _
  refine pt_d (pt_ifB_eq gx249_5 h1 (fun e2 => ?_) (fun e2 => ?_))
  · have H := H.1 e2
    refine pt_d (pt_iconst gx249_24 (fun v3 h3 => ?_))
    exact pt_d (pt_iret gx249_25 ⟨_, rfl, by rw [h3]; exact H⟩)
  · have H := H.2 e2
    refine pt_d (pt_1 (fun n d => r_iloadn gx249_8 rfl) ?_)
    refine pt_d (pt_stat (as := [.int x2]) (r := []) gx249_9 rfl (show zmt[198]? = some zM198 from rfl) rfl rfl rfl rfl (c_198 S z2) (kqP (fun v4 h4 => ?_)))
    show Pt _ _ _ 12 _ [.int v4] _ _
    refine pt_d (pt_ifB_eq gx249_12 h4 (fun e5 => ?_) (fun e5 => ?_))
    · have H := H.1 e5
      refine pt_d (pt_iconst gx249_24 (fun v6 h6 => ?_))
      exact pt_d (pt_iret gx249_25 ⟨_, rfl, by rw [h6]; exact H⟩)
    · have H := H.2 e5
      refine pt_d (pt_1 (fun n d => r_iloadn gx249_15 rfl) ?_)
      refine pt_d (pt_iconst gx249_16 (fun v7 h7 => ?_))
      refine pt_d (pt_iconst gx249_17 (fun v8 h8 => ?_))
      refine pt_d (pt_stat (as := [.int x3, .int v7, .int v8]) (r := []) gx249_18 rfl (show zmt[196]? = some zM196 from rfl) rfl rfl rfl rfl (c_196 S z3 h7 h8) (kqP (fun v9 h9 => ?_)))
      show Pt _ _ _ 21 _ [.int v9] _ _
      refine pt_d (pt_ifB_ne gx249_21 h9 (fun e10 => ?_) (fun e10 => ?_))
      · have H := H.1 e10
        refine pt_d (pt_iconst gx249_26 (fun v11 h11 => ?_))
        refine pt_d (pt_1 (fun n d => r_istore (L' := [some (.ref 72), some (.int x1), some (.int x2), some (.int x3), some (.int v11), none, none, none]) gx249_27 rfl rfl) ?_)
        refine pt_d (pt_iconst gx249_29 (fun v12 h12 => ?_))
        refine pt_d (pt_1 (fun n d => r_istore (L' := [some (.ref 72), some (.int x1), some (.int x2), some (.int x3), some (.int v11), some (.int v12), none, none]) gx249_30 rfl rfl) ?_)
        exact H v11 v12 h11 h12
      · have H := H.2 e10
        refine pt_d (pt_iconst gx249_24 (fun v13 h13 => ?_))
        exact pt_d (pt_iret gx249_25 ⟨_, rfl, by rw [h13]; exact H⟩)
theorem d249_32 {n : Nat} {X : aX} {h : aH} {P : Int → aH → Prop} {x1 x2 x3 x4 x5 : Int32} {a1 a2 a3 a4 a5 : Int} (S : wS h) (z1 : x1.toInt = a1) (z2 : x2.toInt = a2) (z3 : x3.toInt = a3) (z4 : x4.toInt = a4) (z5 : x5.toInt = a5) (H : ((6 ≤ a5 → ((a4 ≠ 0 → (∀ (w5 : Int32) (w6 : Int32), w5.toInt = 0 → w6.toInt = 1 → Pt n X zM249 91 [some (.ref 72), some (.int x1), some (.int x2), some (.int x3), some (.int x4), some (.int w5), some (.int w6), none] [] h (qI P))) ∧ (a4 = 0 → P (-2) h))) ∧ (a5 < 6 → ((a4 ≠ 0 → (∀ (w4 : Int32) (w5 : Int32), w4.toInt = 1 → w5.toInt = w32 (a5 + 1) → Pt n X zM249 32 [some (.ref 72), some (.int x1), some (.int x2), some (.int x3), some (.int w4), some (.int w5), none, none] [] h (qI P))) ∧ (a4 = 0 → (0 ≤ w32 ((w32 ((w32 (60 * a1)) + (w32 (6 * a2)))) + a5) → w32 ((w32 ((w32 (60 * a1)) + (w32 (6 * a2)))) + a5) < 9000 → ((vw h 114 (w32 ((w32 ((w32 (60 * a1)) + (w32 (6 * a2)))) + a5)) = 0 → (∀ (w4 : Int32) (w5 : Int32), w4.toInt = 0 → w5.toInt = w32 (a5 + 1) → Pt n X zM249 32 [some (.ref 72), some (.int x1), some (.int x2), some (.int x3), some (.int w4), some (.int w5), none, none] [] h (qI P))) ∧ (vw h 114 (w32 ((w32 ((w32 (60 * a1)) + (w32 (6 * a2)))) + a5)) ≠ 0 → (∀ (w4 : Int32) (w5 : Int32), w4.toInt = 1 → w5.toInt = w32 (a5 + 1) → Pt n X zM249 32 [some (.ref 72), some (.int x1), some (.int x2), some (.int x3), some (.int w4), some (.int w5), none, none] [] h (qI P)))))))))) : Pt (n + 1) X zM249 32 [some (.ref 72), some (.int x1), some (.int x2), some (.int x3), some (.int x4), some (.int x5), none, none] [] h (qI P) := by
  refine pt_1 (fun n d => r_iload gx249_32 rfl) ?_
  refine pt_d (pt_bipush gx249_34 (fun v1 h1 => ?_))
  refine pt_d (pt_icmp_ge gx249_36 z5 h1 (fun e2 => ?_) (fun e2 => ?_))
  · have H := H.1 e2
    refine pt_d (pt_1 (fun n d => r_iload gx249_77 rfl) ?_)
    refine pt_d (pt_if_ne gx249_79 z4 (fun e3 => ?_) (fun e3 => ?_))
    · have H := H.1 e3
      refine pt_d (pt_iconst gx249_85 (fun v4 h4 => ?_))
      refine pt_d (pt_1 (fun n d => r_istore (L' := [some (.ref 72), some (.int x1), some (.int x2), some (.int x3), some (.int x4), some (.int v4), none, none]) gx249_86 rfl rfl) ?_)
      refine pt_d (pt_iconst gx249_88 (fun v5 h5 => ?_))
      refine pt_d (pt_1 (fun n d => r_istore (L' := [some (.ref 72), some (.int x1), some (.int x2), some (.int x3), some (.int x4), some (.int v4), some (.int v5), none]) gx249_89 rfl rfl) ?_)
      exact H v4 v5 h4 h5
    · have H := H.2 e3
      refine pt_d (pt_bipush gx249_82 (fun v6 h6 => ?_))
      exact pt_d (pt_iret gx249_84 ⟨_, rfl, by rw [h6]; exact H⟩)
  · have H := H.2 e2
    refine pt_d (pt_1 (fun n d => r_iload gx249_39 rfl) ?_)
    refine pt_d (pt_if_ne gx249_41 z4 (fun e7 => ?_) (fun e7 => ?_))
    · have H := H.1 e7
      refine pt_d (pt_iconst gx249_64 (fun v8 h8 => ?_))
      refine pt_d (pt_1 (fun n d => r_goto gx249_65) ?_)
      refine pt_d (pt_1 (fun n d => r_istore (L' := [some (.ref 72), some (.int x1), some (.int x2), some (.int x3), some (.int v8), some (.int x5), none, none]) gx249_69 rfl rfl) ?_)
      refine pt_d (pt_iinc (c := 1) gx249_71 rfl z5 (fun v9 h9 => ?_))
      show Pt _ _ _ _ [some (.ref 72), some (.int x1), some (.int x2), some (.int x3), some (.int v8), some (.int v9), none, none] [] _ _
      refine pt_d (pt_1 (fun n d => r_goto gx249_74) ?_)
      exact H v8 v9 h8 h9
    · have H := H.2 e7
      refine pt_d (pt_1 (fun n d => r_aloadn gx249_44 rfl) ?_)
      refine pt_d (pt_getR gx249_45 S tr_72_51 ?_)
      refine pt_d (pt_bipush gx249_48 (fun v11 h11 => ?_))
      refine pt_d (pt_1 (fun n d => r_iloadn gx249_50 rfl) ?_)
      refine pt_d (pt_imul gx249_51 h11 z1 (fun v12 h12 => ?_))
      refine pt_d (pt_bipush gx249_52 (fun v13 h13 => ?_))
      refine pt_d (pt_1 (fun n d => r_iloadn gx249_54 rfl) ?_)
      refine pt_d (pt_imul gx249_55 h13 z2 (fun v14 h14 => ?_))
      refine pt_d (pt_iadd gx249_56 h12 h14 (fun v15 h15 => ?_))
      refine pt_d (pt_1 (fun n d => r_iload gx249_57 rfl) ?_)
      refine pt_d (pt_iadd gx249_59 h15 z5 (fun v16 h16 => ?_))
      refine pt_d (pt_zald (N' := 9000) gx249_60 S tl_114 h16 (fun v17 p17 q17 h17 => ?_))
      have H := H p17 q17
      refine pt_d (pt_if_eq gx249_61 h17 (fun e18 => ?_) (fun e18 => ?_))
      · have H := H.1 e18
        refine pt_d (pt_iconst gx249_68 (fun v19 h19 => ?_))
        refine pt_d (pt_1 (fun n d => r_istore (L' := [some (.ref 72), some (.int x1), some (.int x2), some (.int x3), some (.int v19), some (.int x5), none, none]) gx249_69 rfl rfl) ?_)
        refine pt_d (pt_iinc (c := 1) gx249_71 rfl z5 (fun v20 h20 => ?_))
        show Pt _ _ _ _ [some (.ref 72), some (.int x1), some (.int x2), some (.int x3), some (.int v19), some (.int v20), none, none] [] _ _
        refine pt_d (pt_1 (fun n d => r_goto gx249_74) ?_)
        exact H v19 v20 h19 h20
      · have H := H.2 e18
        refine pt_d (pt_iconst gx249_64 (fun v21 h21 => ?_))
        refine pt_d (pt_1 (fun n d => r_goto gx249_65) ?_)
        refine pt_d (pt_1 (fun n d => r_istore (L' := [some (.ref 72), some (.int x1), some (.int x2), some (.int x3), some (.int v21), some (.int x5), none, none]) gx249_69 rfl rfl) ?_)
        refine pt_d (pt_iinc (c := 1) gx249_71 rfl z5 (fun v22 h22 => ?_))
        show Pt _ _ _ _ [some (.ref 72), some (.int x1), some (.int x2), some (.int x3), some (.int v21), some (.int v22), none, none] [] _ _
        refine pt_d (pt_1 (fun n d => r_goto gx249_74) ?_)
        exact H v21 v22 h21 h22
theorem d249_91 {n : Nat} {X : aX} {h : aH} {P : Int → aH → Prop} {x1 x2 x3 x4 x5 x6 : Int32} {a1 a2 a3 a4 a5 a6 : Int} (S : wS h) (z1 : x1.toInt = a1) (z2 : x2.toInt = a2) (z3 : x3.toInt = a3) (z4 : x4.toInt = a4) (z5 : x5.toInt = a5) (z6 : x6.toInt = a6) (H : ((8 ≤ a6 → ((a3 ≠ 0 → (∀ (w6 : Int32) (w7 : Int32), w6.toInt = 2147483647 → w7.toInt = 0 → Pt n X zM249 142 [some (.ref 72), some (.int x1), some (.int x2), some (.int x3), some (.int x4), some (.int x5), some (.int w6), some (.int w7)] [] h (qI P))) ∧ (a3 = 0 → P a5 h))) ∧ (a6 < 8 → (lkMo (vw h) a1 a2 a6 ∧ (lkMo (vw h) a1 a2 a5 ∧ ((mA (vw h) a1 a2 a5 6 ≤ mA (vw h) a1 a2 a6 6 → (∀ (w6 : Int32), w6.toInt = w32 (a6 + 1) → Pt n X zM249 91 [some (.ref 72), some (.int x1), some (.int x2), some (.int x3), some (.int x4), some (.int x5), some (.int w6), none] [] h (qI P))) ∧ (mA (vw h) a1 a2 a6 6 < mA (vw h) a1 a2 a5 6 → (∀ (w6 : Int32), w6.toInt = w32 (a6 + 1) → Pt n X zM249 91 [some (.ref 72), some (.int x1), some (.int x2), some (.int x3), some (.int x4), some (.int x6), some (.int w6), none] [] h (qI P))))))))) : Pt (n + 1) X zM249 91 [some (.ref 72), some (.int x1), some (.int x2), some (.int x3), some (.int x4), some (.int x5), some (.int x6), none] [] h (qI P) := by
  refine pt_1 (fun n d => r_iload gx249_91 rfl) ?_
  refine pt_d (pt_bipush gx249_93 (fun v1 h1 => ?_))
  refine pt_d (pt_icmp_ge gx249_95 z6 h1 (fun e2 => ?_) (fun e2 => ?_))
  · have H := H.1 e2
    refine pt_d (pt_1 (fun n d => r_iloadn gx249_127 rfl) ?_)
    refine pt_d (pt_if_ne gx249_128 z3 (fun e3 => ?_) (fun e3 => ?_))
    · have H := H.1 e3
      refine pt_d (pt_ldc_w (c := 2147483647) gx249_134 rfl (fun v4 h4 => ?_))
      refine pt_d (pt_1 (fun n d => r_istore (L' := [some (.ref 72), some (.int x1), some (.int x2), some (.int x3), some (.int x4), some (.int x5), some (.int v4), none]) gx249_137 rfl rfl) ?_)
      refine pt_d (pt_iconst gx249_139 (fun v5 h5 => ?_))
      refine pt_d (pt_1 (fun n d => r_istore (L' := [some (.ref 72), some (.int x1), some (.int x2), some (.int x3), some (.int x4), some (.int x5), some (.int v4), some (.int v5)]) gx249_140 rfl rfl) ?_)
      exact H v4 v5 h4 h5
    · have H := H.2 e3
      refine pt_d (pt_1 (fun n d => r_iload gx249_131 rfl) ?_)
      exact pt_d (pt_iret gx249_133 ⟨_, rfl, by rw [z5]; exact H⟩)
  · have H := H.2 e2
    refine pt_d (pt_1 (fun n d => r_aloadn gx249_98 rfl) ?_)
    refine pt_d (pt_1 (fun n d => r_iloadn gx249_99 rfl) ?_)
    refine pt_d (pt_1 (fun n d => r_iloadn gx249_100 rfl) ?_)
    refine pt_d (pt_1 (fun n d => r_iload gx249_101 rfl) ?_)
    obtain ⟨pr6, H⟩ := H
    refine pt_d (pt_virt (as := [.int x1, .int x2, .int x6]) (r := []) gx249_103 rfl (show zmt[248]? = some zM248 from rfl) rfl rfl rfl rfl (c_248 S z1 z2 z6 pr6) (kqP (fun v6 h6 => ?_)))
    show Pt _ _ _ 106 _ [.int v6] _ _
    refine pt_d (pt_1 (fun n d => r_aloadn gx249_106 rfl) ?_)
    refine pt_d (pt_1 (fun n d => r_iloadn gx249_107 rfl) ?_)
    refine pt_d (pt_1 (fun n d => r_iloadn gx249_108 rfl) ?_)
    refine pt_d (pt_1 (fun n d => r_iload gx249_109 rfl) ?_)
    obtain ⟨pr7, H⟩ := H
    refine pt_d (pt_virt (as := [.int x1, .int x2, .int x5]) (r := [.int v6]) gx249_111 rfl (show zmt[248]? = some zM248 from rfl) rfl rfl rfl rfl (c_248 S z1 z2 z5 pr7) (kqP (fun v7 h7 => ?_)))
    show Pt _ _ _ 114 _ [.int v7, .int v6] _ _
    refine pt_d (pt_icmp_ge gx249_114 h6 h7 (fun e8 => ?_) (fun e8 => ?_))
    · have H := H.1 e8
      refine pt_d (pt_iinc (c := 1) gx249_121 rfl z6 (fun v9 h9 => ?_))
      show Pt _ _ _ _ [some (.ref 72), some (.int x1), some (.int x2), some (.int x3), some (.int x4), some (.int x5), some (.int v9), none] [] _ _
      refine pt_d (pt_1 (fun n d => r_goto gx249_124) ?_)
      exact H v9 h9
    · have H := H.2 e8
      refine pt_d (pt_1 (fun n d => r_iload gx249_117 rfl) ?_)
      refine pt_d (pt_1 (fun n d => r_istore (L' := [some (.ref 72), some (.int x1), some (.int x2), some (.int x3), some (.int x4), some (.int x6), some (.int x6), none]) gx249_119 rfl rfl) ?_)
      refine pt_d (pt_iinc (c := 1) gx249_121 rfl z6 (fun v10 h10 => ?_))
      show Pt _ _ _ _ [some (.ref 72), some (.int x1), some (.int x2), some (.int x3), some (.int x4), some (.int x6), some (.int v10), none] [] _ _
      refine pt_d (pt_1 (fun n d => r_goto gx249_124) ?_)
      exact H v10 h10
theorem d249_142 {n : Nat} {X : aX} {h : aH} {P : Int → aH → Prop} {x1 x2 x3 x4 x5 x6 x7 : Int32} {a1 a2 a3 a4 a5 a6 a7 : Int} (S : wS h) (z1 : x1.toInt = a1) (z2 : x2.toInt = a2) (z3 : x3.toInt = a3) (z4 : x4.toInt = a4) (z5 : x5.toInt = a5) (z6 : x6.toInt = a6) (z7 : x7.toInt = a7) (H : ((8 ≤ a7 → (lkMo (vw h) a1 a2 a5 ∧ P (w32 (a6 - (mA (vw h) a1 a2 a5 6))) h)) ∧ (a7 < 8 → ((a7 = a5 → (∀ (w7 : Int32), w7.toInt = w32 (a7 + 1) → Pt n X zM249 142 [some (.ref 72), some (.int x1), some (.int x2), some (.int x3), some (.int x4), some (.int x5), some (.int x6), some (.int w7)] [] h (qI P))) ∧ (a7 ≠ a5 → (lkMo (vw h) a1 a2 a7 ∧ (∀ (w6 : Int32) (w7 : Int32), w6.toInt = min a6 (mA (vw h) a1 a2 a7 6) → w7.toInt = w32 (a7 + 1) → Pt n X zM249 142 [some (.ref 72), some (.int x1), some (.int x2), some (.int x3), some (.int x4), some (.int x5), some (.int w6), some (.int w7)] [] h (qI P)))))))) : Pt (n + 1) X zM249 142 [some (.ref 72), some (.int x1), some (.int x2), some (.int x3), some (.int x4), some (.int x5), some (.int x6), some (.int x7)] [] h (qI P) := by
  refine pt_1 (fun n d => r_iload gx249_142 rfl) ?_
  refine pt_d (pt_bipush gx249_144 (fun v1 h1 => ?_))
  refine pt_d (pt_icmp_ge gx249_146 z7 h1 (fun e2 => ?_) (fun e2 => ?_))
  · have H := H.1 e2
    refine pt_d (pt_1 (fun n d => r_iload gx249_177 rfl) ?_)
    refine pt_d (pt_1 (fun n d => r_aloadn gx249_179 rfl) ?_)
    refine pt_d (pt_1 (fun n d => r_iloadn gx249_180 rfl) ?_)
    refine pt_d (pt_1 (fun n d => r_iloadn gx249_181 rfl) ?_)
    refine pt_d (pt_1 (fun n d => r_iload gx249_182 rfl) ?_)
    obtain ⟨pr3, H⟩ := H
    refine pt_d (pt_virt (as := [.int x1, .int x2, .int x5]) (r := [.int x6]) gx249_184 rfl (show zmt[248]? = some zM248 from rfl) rfl rfl rfl rfl (c_248 S z1 z2 z5 pr3) (kqP (fun v3 h3 => ?_)))
    show Pt _ _ _ 187 _ [.int v3, .int x6] _ _
    refine pt_d (pt_isub gx249_187 z6 h3 (fun v4 h4 => ?_))
    exact pt_d (pt_iret gx249_188 ⟨_, rfl, by rw [h4]; exact H⟩)
  · have H := H.2 e2
    refine pt_d (pt_1 (fun n d => r_iload gx249_149 rfl) ?_)
    refine pt_d (pt_1 (fun n d => r_iload gx249_151 rfl) ?_)
    refine pt_d (pt_icmp_eq gx249_153 z7 z5 (fun e5 => ?_) (fun e5 => ?_))
    · have H := H.1 e5
      refine pt_d (pt_iinc (c := 1) gx249_171 rfl z7 (fun v6 h6 => ?_))
      show Pt _ _ _ _ [some (.ref 72), some (.int x1), some (.int x2), some (.int x3), some (.int x4), some (.int x5), some (.int x6), some (.int v6)] [] _ _
      refine pt_d (pt_1 (fun n d => r_goto gx249_174) ?_)
      exact H v6 h6
    · have H := H.2 e5
      refine pt_d (pt_1 (fun n d => r_iload gx249_156 rfl) ?_)
      refine pt_d (pt_1 (fun n d => r_aloadn gx249_158 rfl) ?_)
      refine pt_d (pt_1 (fun n d => r_iloadn gx249_159 rfl) ?_)
      refine pt_d (pt_1 (fun n d => r_iloadn gx249_160 rfl) ?_)
      refine pt_d (pt_1 (fun n d => r_iload gx249_161 rfl) ?_)
      obtain ⟨pr7, H⟩ := H
      refine pt_d (pt_virt (as := [.int x1, .int x2, .int x7]) (r := [.int x6]) gx249_163 rfl (show zmt[248]? = some zM248 from rfl) rfl rfl rfl rfl (c_248 S z1 z2 z7 pr7) (kqP (fun v7 h7 => ?_)))
      show Pt _ _ _ 166 _ [.int v7, .int x6] _ _
      refine pt_d (pt_stat (as := [.int x6, .int v7]) (r := []) gx249_166 rfl (show zmt[211]? = some zM211 from rfl) rfl rfl rfl rfl (c_211 S z6 h7) (kqP (fun v8 h8 => ?_)))
      show Pt _ _ _ 169 _ [.int v8] _ _
      refine pt_d (pt_1 (fun n d => r_istore (L' := [some (.ref 72), some (.int x1), some (.int x2), some (.int x3), some (.int x4), some (.int x5), some (.int v8), some (.int x7)]) gx249_169 rfl rfl) ?_)
      refine pt_d (pt_iinc (c := 1) gx249_171 rfl z7 (fun v9 h9 => ?_))
      show Pt _ _ _ _ [some (.ref 72), some (.int x1), some (.int x2), some (.int x3), some (.int x4), some (.int x5), some (.int v8), some (.int v9)] [] _ _
      refine pt_d (pt_1 (fun n d => r_goto gx249_174) ?_)
      exact H v8 v9 h8 h9
theorem l_42 {X : aX} {q : Nat} {y w : Int} {h : aH} (S : wS h) (H : ∀ c, 0 ≤ c → c < 8 → lkCl (vw h) q y c) : ∀ (n : Nat) (x1 x2 x3 x5 x6 x7 x8 : Int32) (u9 : Option Value) (k : Nat), x2.toInt = y → x3.toInt = w → 1 ≤ k → k ≤ 8 → x8.toInt = (k : Int) → x5.toInt = cAp (vw h) q y ((bst (fun c : Nat => cAp (vw h) q y (c : Int)) k : Nat) : Int) → x6.toInt = ((bst (fun c : Nat => cAp (vw h) q y (c : Int)) k : Nat) : Int) → x7.toInt = nx (fun c : Nat => cAp (vw h) q y (c : Int)) k → Pt n X zM42 45 [some (.ref 63), some (.int x1), some (.int x2), some (.int x3), some (.ref q), some (.int x5), some (.int x6), some (.int x7), some (.int x8), u9] [] h (qI (fun r h' => h' = h ∧ r = jdg (fun c : Nat => cAp (vw h) q y (c : Int)) w)) := by
  intro n
  induction n with
  | zero => exact fun _ _ _ _ _ _ _ _ _ _ _ _ _ _ _ _ _ => pt_z
  | succ n ih =>
    intro x1 x2 x3 x5 x6 x7 x8 u9 k h2 h3 k1 hk h8 h5 h6 h7
    have f0 : (fun c : Nat => cAp (vw h) q y (c : Int)) 0 ≤ 2147483647 := by
      have b := (aA_b (H 0 (by decide) (by decide)) 6 (Nat.le_refl _)).1
      show cAp (vw h) q y 0 ≤ _
      unfold cAp
      split <;> omega
    refine d42_45 S rfl h2 h3 h5 h6 h7 h8 ⟨fun e1 => ⟨fun e2 => ?_, fun e2 => ?_⟩, fun e1 => ⟨H _ (by omega) e1, fun e2 w7 w8 u9 g7 g8 => ?_, fun e2 w5 w8 u9 g5 g8 => ?_⟩⟩
    · obtain rfl : k = 8 := by omega
      refine ⟨rfl, ?_⟩
      unfold jdg
      rw [if_neg e2, ← nx_mn f0 7]
    · obtain rfl : k = 8 := by omega
      refine ⟨rfl, ?_⟩
      unfold jdg
      rw [if_pos e2]
    · replace g8 := w_1 g8 (by omega) (by omega)
      have eb : bst (fun c : Nat => cAp (vw h) q y (c : Int)) (k + 1) = bst (fun c : Nat => cAp (vw h) q y (c : Int)) k := if_neg (by show ¬ (cAp (vw h) q y (k : Int) < cAp (vw h) q y ((bst (fun c : Nat => cAp (vw h) q y (c : Int)) k : Nat) : Int)); omega)
      refine ih x1 x2 x3 x5 x6 w7 w8 u9 (k + 1) h2 h3 (by omega) (by omega) (by omega) (by rw [eb]; exact h5) (by rw [eb]; exact h6) ?_
      rw [g7, nx_s, if_neg (by show ¬ (cAp (vw h) q y (k : Int) < cAp (vw h) q y ((bst (fun c : Nat => cAp (vw h) q y (c : Int)) k : Nat) : Int)); omega), if_neg (by omega)]
    · replace g8 := w_1 g8 (by omega) (by omega)
      have eb : bst (fun c : Nat => cAp (vw h) q y (c : Int)) (k + 1) = k := if_pos e2
      refine ih x1 x2 x3 w5 x8 x5 w8 u9 (k + 1) h2 h3 (by omega) (by omega) (by omega) (by rw [eb]; exact g5) (by rw [eb]; exact h8) ?_
      rw [h5, nx_s, if_pos (by show cAp (vw h) q y (k : Int) < cAp (vw h) q y ((bst (fun c : Nat => cAp (vw h) q y (c : Int)) k : Nat) : Int); exact e2)]
def q42 (V : vS) (b y : Int) : Prop := ∀ q : Nat, V 65 b = (q : Int) → ∀ c, 0 ≤ c → c < 8 → lkCl V q y c
def R42 (V : vS) (b y w r : Int) : Prop := (V 65 b = -1 ∧ r = -2) ∨ ∃ q : Nat, V 65 b = (q : Int) ∧ ((cAp V q y 0 = -1 ∧ r = -2) ∨ (cAp V q y 0 ≠ -1 ∧ r = jdg (fun c : Nat => cAp V q y (c : Int)) w))
theorem c_42 {n : Nat} {X : aX} {h : aH} {x1 x2 x3 : Int32} {a1 a2 a3 : Int} (S : wS h) (z1 : x1.toInt = a1) (z2 : x2.toInt = a2) (z3 : x3.toInt = a3) (hp : q42 (vw h) a1 a2) : Pt n X zM42 0 [some (.ref 63), some (.int x1), some (.int x2), some (.int x3), none, none, none, none, none, none] [] h (qI (fun y h' => wS h' ∧ h' = h ∧ R42 (vw h) a1 a2 a3 y)) := by
  refine pt_d (d42_0 S z1 z2 z3 ⟨fun _ e => ⟨S, rfl, Or.inl ⟨e, rfl⟩⟩, fun q2 _ e => ⟨hp q2 e.symm 0 (by decide) (by decide), fun e2 w5 w6 w7 w8 u9 g5 g6 g7 g8 => ?_, fun e2 => ⟨S, rfl, Or.inr ⟨q2, e.symm, Or.inl ⟨e2, rfl⟩⟩⟩⟩⟩)
  refine pt_q (l_42 (w := a3) S (hp q2 e.symm) n x1 x2 x3 w5 w6 w7 w8 u9 1 z2 z3 (Nat.le_refl _) (by decide) g8 (by rw [bst_1]; exact g5) (by rw [bst_1]; exact g6) ?_) ?_
  · rw [g7]
    unfold nx
    rw [if_neg (by show ¬ (cAp (vw h) q2 a2 0 < cAp (vw h) q2 a2 0); omega), if_pos rfl]
  · rintro v h' ⟨x, ex, p1, p2⟩
    exact ⟨x, ex, by rw [p1]; exact S, p1, Or.inr ⟨q2, e.symm, Or.inr ⟨e2, p2⟩⟩⟩

theorem d166_0 {n : Nat} {X : aX} {h : aH} {P : Int → aH → Prop} {x1 x2 x3 : Int32} {a1 a2 a3 : Int} (S : wS h) (z1 : x1.toInt = a1) (z2 : x2.toInt = a2) (z3 : x3.toInt = a3) (H : ((¬ (cField (vw h) a1) → P (-1) h) ∧ ((cField (vw h) a1) → ((¬ (0 ≤ a2 ∧ a2 ≤ 9) → P (-1) h) ∧ ((0 ≤ a2 ∧ a2 ≤ 9) → (((0 ≤ a3 ∧ a3 ≤ 1) → (q42 (vw h) a1 a2 ∧ ∀ (y13 : Int) (h_13 : aH), (wS h_13 ∧ h_13 = h ∧ R42 (vw h) a1 a2 a3 y13) → P y13 h_13)) ∧ (¬ (0 ≤ a3 ∧ a3 ≤ 1) → P (-1) h))))))) : Pt (n + 1) X zM166 0 [some (.ref 0), some (.int x1), some (.int x2), some (.int x3)] [] h (qI P) := by
  refine pt_1 (fun n d => r_aloadn gx166_0 rfl) ?_
  refine pt_d (pt_getR gx166_1 S tr_0_0 ?_)
  refine pt_d (pt_1 (fun n d => r_iloadn gx166_4 rfl) ?_)
  refine pt_d (pt_virt (as := [.int x1]) (r := []) gx166_5 rfl (show zmt[77]? = some zM77 from rfl) rfl rfl rfl rfl (c_77 S z1) (kqP (fun v2 h2 => ?_)))
  show Pt _ _ _ 8 _ [.int v2] _ _
  refine pt_d (pt_ifB_eq gx166_8 h2 (fun e3 => ?_) (fun e3 => ?_))
  · have H := H.1 e3
    refine pt_d (pt_iconst gx166_27 (fun v4 h4 => ?_))
    exact pt_d (pt_iret gx166_28 ⟨_, rfl, by rw [h4]; exact H⟩)
  · have H := H.2 e3
    refine pt_d (pt_1 (fun n d => r_iloadn gx166_11 rfl) ?_)
    refine pt_d (pt_stat (as := [.int x2]) (r := []) gx166_12 rfl (show zmt[139]? = some zM139 from rfl) rfl rfl rfl rfl (c_139 S z2) (kqP (fun v5 h5 => ?_)))
    show Pt _ _ _ 15 _ [.int v5] _ _
    refine pt_d (pt_ifB_eq gx166_15 h5 (fun e6 => ?_) (fun e6 => ?_))
    · have H := H.1 e6
      refine pt_d (pt_iconst gx166_27 (fun v7 h7 => ?_))
      exact pt_d (pt_iret gx166_28 ⟨_, rfl, by rw [h7]; exact H⟩)
    · have H := H.2 e6
      refine pt_d (pt_1 (fun n d => r_iloadn gx166_18 rfl) ?_)
      refine pt_d (pt_iconst gx166_19 (fun v8 h8 => ?_))
      refine pt_d (pt_iconst gx166_20 (fun v9 h9 => ?_))
      refine pt_d (pt_stat (as := [.int x3, .int v8, .int v9]) (r := []) gx166_21 rfl (show zmt[137]? = some zM137 from rfl) rfl rfl rfl rfl (c_137 S z3 h8 h9) (kqP (fun v10 h10 => ?_)))
      show Pt _ _ _ 24 _ [.int v10] _ _
      refine pt_d (pt_ifB_ne gx166_24 h10 (fun e11 => ?_) (fun e11 => ?_))
      · have H := H.1 e11
        refine pt_d (pt_1 (fun n d => r_aloadn gx166_29 rfl) ?_)
        refine pt_d (pt_getR gx166_30 S tr_0_7 ?_)
        refine pt_d (pt_1 (fun n d => r_iloadn gx166_33 rfl) ?_)
        refine pt_d (pt_1 (fun n d => r_iloadn gx166_34 rfl) ?_)
        refine pt_d (pt_1 (fun n d => r_iloadn gx166_35 rfl) ?_)
        obtain ⟨pr13, H⟩ := H
        refine pt_d (pt_virt (as := [.int x1, .int x2, .int x3]) (r := []) gx166_36 rfl (show zmt[42]? = some zM42 from rfl) rfl rfl rfl rfl (c_42 S z1 z2 z3 pr13) (kqI (fun v13 y13 h_13 h13 P13 => ?_)))
        have S13 := P13.1
        have H := H y13 h_13 P13
        show Pt _ _ _ 39 _ [.int v13] _ _
        exact pt_d (pt_iret gx166_39 ⟨_, rfl, by rw [h13]; exact H⟩)
      · have H := H.2 e11
        refine pt_d (pt_iconst gx166_27 (fun v14 h14 => ?_))
        exact pt_d (pt_iret gx166_28 ⟨_, rfl, by rw [h14]; exact H⟩)
def R166 (V : vS) (b y w r : Int) : Prop := (¬ (cField V b ∧ (0 ≤ y ∧ y ≤ 9) ∧ 0 ≤ w ∧ w ≤ 1) ∧ r = -1) ∨ ((cField V b ∧ (0 ≤ y ∧ y ≤ 9) ∧ 0 ≤ w ∧ w ≤ 1) ∧ R42 V b y w r)
theorem c_166 {n : Nat} {X : aX} {h : aH} {x1 x2 x3 : Int32} {a1 a2 a3 : Int} (S : wS h) (z1 : x1.toInt = a1) (z2 : x2.toInt = a2) (z3 : x3.toInt = a3) (hp : ∀ b, cField (vw h) b → ∀ y, 0 ≤ y ∧ y ≤ 9 → q42 (vw h) b y) : Pt n X zM166 0 [some (.ref 0), some (.int x1), some (.int x2), some (.int x3)] [] h (qI (fun y h' => h' = h ∧ R166 (vw h) a1 a2 a3 y)) := by
  refine pt_d (d166_0 S z1 z2 z3 ⟨fun e => ⟨rfl, Or.inl ⟨fun z => e z.1, rfl⟩⟩, fun e => ⟨fun e2 => ⟨rfl, Or.inl ⟨fun z => e2 z.2.1, rfl⟩⟩, fun e2 => ⟨fun e3 => ⟨hp _ e _ e2, fun y g k => ⟨k.2.1, Or.inr ⟨⟨e, e2, e3⟩, k.2.2⟩⟩⟩, fun e3 => ⟨rfl, Or.inl ⟨fun z => e3 z.2.2, rfl⟩⟩⟩⟩⟩)
def mS (V : vS) (b y : Int) : Nat → Bool
  | 0 => false
  | k + 1 => mS V b y k || decide (V 114 (60 * b + 6 * y + (k : Int)) ≠ 0)
def R249 (V : vS) (b y w r : Int) : Prop := (¬ (mField V b ∧ (0 ≤ y ∧ y ≤ 9) ∧ 0 ≤ w ∧ w ≤ 1) ∧ r = -1) ∨ ((mField V b ∧ (0 ≤ y ∧ y ≤ 9) ∧ 0 ≤ w ∧ w ≤ 1) ∧ ((mS V b y 6 = false ∧ r = -2) ∨ (mS V b y 6 = true ∧ r = jdg (fun c : Nat => mA V b y (c : Int) 6) w)))
theorem l_249c {X : aX} {b y w : Int} {h : aH} {B : Nat} (S : wS h) (H : ∀ c, 0 ≤ c → c < 8 → lkMo (vw h) b y c) (hB : B < 8) : ∀ (n : Nat) (x1 x2 x3 x4 x5 x6 x7 : Int32) (k : Nat), x1.toInt = b → x2.toInt = y → x3.toInt = w → k ≤ 8 → x5.toInt = (B : Int) → x7.toInt = (k : Int) → x6.toInt = mn (fun c : Nat => mA (vw h) b y (c : Int) 6) B k → Pt n X zM249 142 [some (.ref 72), some (.int x1), some (.int x2), some (.int x3), some (.int x4), some (.int x5), some (.int x6), some (.int x7)] [] h (qI (fun r h' => h' = h ∧ r = w32 (mn (fun c : Nat => mA (vw h) b y (c : Int) 6) B 8 - mA (vw h) b y (B : Int) 6))) := by
  intro n
  induction n with
  | zero => exact fun _ _ _ _ _ _ _ _ _ _ _ _ _ _ _ => pt_z
  | succ n ih =>
    intro x1 x2 x3 x4 x5 x6 x7 k h1 h2 h3 hk h5 h7 h6
    refine d249_142 S h1 h2 h3 rfl h5 h6 h7 ⟨fun e1 => ⟨H _ (by omega) (by omega), ?_⟩, fun e1 => ⟨fun e2 w7 g7 => ?_, fun e2 => ⟨H _ (by omega) e1, fun w6 w7 g6 g7 => ?_⟩⟩⟩
    · obtain rfl : k = 8 := by omega
      exact ⟨rfl, rfl⟩
    · replace g7 := w_1 g7 (by omega) (by omega)
      refine ih x1 x2 x3 x4 x5 x6 w7 (k + 1) h1 h2 h3 (by omega) h5 (by omega) ?_
      rw [mn_s, if_pos (by omega)]
      exact h6
    · replace g7 := w_1 g7 (by omega) (by omega)
      refine ih x1 x2 x3 x4 x5 w6 w7 (k + 1) h1 h2 h3 (by omega) h5 (by omega) ?_
      rw [mn_s, if_neg (by omega)]
      exact g6
theorem l_249b {X : aX} {b y w : Int} {h : aH} (S : wS h) (H : ∀ c, 0 ≤ c → c < 8 → lkMo (vw h) b y c) : ∀ (n : Nat) (x1 x2 x3 x4 x5 x6 : Int32) (k : Nat), x1.toInt = b → x2.toInt = y → x3.toInt = w → 1 ≤ k → k ≤ 8 → x5.toInt = ((bst (fun c : Nat => mA (vw h) b y (c : Int) 6) k : Nat) : Int) → x6.toInt = (k : Int) → Pt n X zM249 91 [some (.ref 72), some (.int x1), some (.int x2), some (.int x3), some (.int x4), some (.int x5), some (.int x6), none] [] h (qI (fun r h' => h' = h ∧ r = jdg (fun c : Nat => mA (vw h) b y (c : Int) 6) w)) := by
  intro n
  induction n with
  | zero => exact fun _ _ _ _ _ _ _ _ _ _ _ _ _ _ => pt_z
  | succ n ih =>
    intro x1 x2 x3 x4 x5 x6 k h1 h2 h3 k1 hk h5 h6
    have hb : bst (fun c : Nat => mA (vw h) b y (c : Int) 6) k < k := by
      obtain ⟨j, rfl⟩ : ∃ j, k = j + 1 := ⟨k - 1, by omega⟩
      exact bst_lt _ j
    refine d249_91 S h1 h2 h3 rfl h5 h6 ⟨fun e1 => ⟨fun e2 w6 w7 g6 g7 => ?_, fun e2 => ?_⟩, fun e1 => ⟨H _ (by omega) e1, H _ (by omega) (by omega), fun e2 w6 g6 => ?_, fun e2 w6 g6 => ?_⟩⟩
    · obtain rfl : k = 8 := by omega
      refine pt_q (l_249c (w := w) S H hb n x1 x2 x3 x4 x5 w6 w7 0 h1 h2 h3 (by decide) h5 g7 g6) ?_
      rintro v h' ⟨x, ex, p1, p2⟩
      refine ⟨x, ex, p1, p2.trans ?_⟩
      unfold jdg
      rw [if_neg e2]
    · obtain rfl : k = 8 := by omega
      refine ⟨rfl, ?_⟩
      unfold jdg
      rw [if_pos e2]
    · replace g6 := w_1 g6 (by omega) (by omega)
      have eb : bst (fun c : Nat => mA (vw h) b y (c : Int) 6) (k + 1) = bst (fun c : Nat => mA (vw h) b y (c : Int) 6) k := if_neg (by show ¬ (mA (vw h) b y (k : Int) 6 < mA (vw h) b y ((bst (fun c : Nat => mA (vw h) b y (c : Int) 6) k : Nat) : Int) 6); omega)
      exact ih x1 x2 x3 x4 x5 w6 (k + 1) h1 h2 h3 (by omega) (by omega) (by rw [eb]; exact h5) (by omega)
    · replace g6 := w_1 g6 (by omega) (by omega)
      have eb : bst (fun c : Nat => mA (vw h) b y (c : Int) 6) (k + 1) = k := if_pos e2
      exact ih x1 x2 x3 x4 x6 w6 (k + 1) h1 h2 h3 (by omega) (by omega) (by rw [eb]; exact h6) (by omega)
theorem l_249a {X : aX} {b y w : Int} {h : aH} (S : wS h) (H : ∀ c, 0 ≤ c → c < 8 → lkMo (vw h) b y c) : ∀ (n : Nat) (x1 x2 x3 x4 x5 : Int32) (k : Nat), x1.toInt = b → x2.toInt = y → x3.toInt = w → k ≤ 6 → x5.toInt = (k : Int) → (x4.toInt = if mS (vw h) b y k then 1 else 0) → Pt n X zM249 32 [some (.ref 72), some (.int x1), some (.int x2), some (.int x3), some (.int x4), some (.int x5), none, none] [] h (qI (fun r h' => h' = h ∧ ((mS (vw h) b y 6 = false ∧ r = -2) ∨ (mS (vw h) b y 6 = true ∧ r = jdg (fun c : Nat => mA (vw h) b y (c : Int) 6) w)))) := by
  intro n
  induction n with
  | zero => exact fun _ _ _ _ _ _ _ _ _ _ _ _ => pt_z
  | succ n ih =>
    intro x1 x2 x3 x4 x5 k h1 h2 h3 hk h5 h4
    have hb := (H 0 (by decide) (by decide)).1
    have hy := (H 0 (by decide) (by decide)).2.1
    have es : mS (vw h) b y (k + 1) = (mS (vw h) b y k || decide (vw h 114 (60 * b + 6 * y + (k : Int)) ≠ 0)) := rfl
    refine d249_32 S h1 h2 h3 h4 h5 ⟨fun e1 => ⟨fun e2 w5 w6 g5 g6 => ?_, fun e2 => ?_⟩, fun e1 => ⟨fun e2 w4 w5 g4 g5 => ?_, fun e2 p p' => ⟨fun e3 w4 w5 g4 g5 => ?_, fun e3 w4 w5 g4 g5 => ?_⟩⟩⟩
    · obtain rfl : k = 6 := by omega
      have t : mS (vw h) b y 6 = true := by
        cases z : mS (vw h) b y 6 with
        | true => rfl
        | false => rw [z] at e2; exact absurd rfl e2
      refine pt_q (l_249b (w := w) S H n x1 x2 x3 x4 w5 w6 1 h1 h2 h3 (Nat.le_refl _) (by decide) (by rw [bst_1]; exact g5) g6) ?_
      rintro v h' ⟨x, ex, p1, p2⟩
      exact ⟨x, ex, p1, Or.inr ⟨t, p2⟩⟩
    · obtain rfl : k = 6 := by omega
      have t : mS (vw h) b y 6 = false := by
        cases z : mS (vw h) b y 6 with
        | false => rfl
        | true => rw [z] at e2; exact absurd e2 (by decide)
      exact ⟨rfl, Or.inl ⟨t, rfl⟩⟩
    · replace g5 := w_1 g5 (by omega) (by omega)
      have t : mS (vw h) b y k = true := by
        cases z : mS (vw h) b y k with
        | true => rfl
        | false => rw [z] at e2; exact absurd rfl e2
      exact ih x1 x2 x3 w4 w5 (k + 1) h1 h2 h3 (by omega) (by omega) (by rw [es, t]; exact g4)
    · replace g5 := w_1 g5 (by omega) (by omega)
      have t : mS (vw h) b y k = false := by
        cases z : mS (vw h) b y k with
        | false => rfl
        | true => rw [z] at e2; exact absurd e2 (by decide)
      rw [xi1 hb.1 hb.2 hy.1 hy.2 (by omega) e1] at e3
      exact ih x1 x2 x3 w4 w5 (k + 1) h1 h2 h3 (by omega) (by omega) (by rw [es, t, decide_eq_false (fun z => z e3)]; exact g4)
    · replace g5 := w_1 g5 (by omega) (by omega)
      rw [xi1 hb.1 hb.2 hy.1 hy.2 (by omega) e1] at e3
      exact ih x1 x2 x3 w4 w5 (k + 1) h1 h2 h3 (by omega) (by omega) (by rw [es, decide_eq_true e3, Bool.or_true]; exact g4)
theorem c_249 {n : Nat} {X : aX} {h : aH} {x1 x2 x3 : Int32} {a1 a2 a3 : Int} (S : wS h) (z1 : x1.toInt = a1) (z2 : x2.toInt = a2) (z3 : x3.toInt = a3) (hp : ∀ b, mField (vw h) b → ∀ y, 0 ≤ y ∧ y ≤ 9 → ∀ c, 0 ≤ c → c < 8 → lkMo (vw h) b y c) : Pt n X zM249 0 [some (.ref 72), some (.int x1), some (.int x2), some (.int x3), none, none, none, none] [] h (qI (fun y h' => h' = h ∧ R249 (vw h) a1 a2 a3 y)) := by
  refine pt_d (d249_0 S z1 z2 z3 ⟨fun e => ⟨rfl, Or.inl ⟨fun z => e z.1, rfl⟩⟩, fun e => ⟨fun e2 => ⟨rfl, Or.inl ⟨fun z => e2 z.2.1, rfl⟩⟩, fun e2 => ⟨fun e3 w4 w5 g4 g5 => ?_, fun e3 => ⟨rfl, Or.inl ⟨fun z => e3 z.2.2, rfl⟩⟩⟩⟩⟩)
  refine pt_q (l_249a (w := a3) S (hp _ e _ e2) n x1 x2 x3 w4 w5 0 z1 z2 z3 (by decide) g5 g4) ?_
  rintro v h' ⟨x, ex, p1, p2⟩
  exact ⟨x, ex, p1, Or.inr ⟨⟨e, e2, e3⟩, p2⟩⟩


-- ===== the rate of errors =====
theorem d270_0 {n : Nat} {X : aX} {h : aH} {P : Int → aH → Prop} {x1 x2 x3 : Int32} {a1 a2 a3 : Int} (S : wS h) (z1 : x1.toInt = a1) (z2 : x2.toInt = a2) (z3 : x3.toInt = a3) (H : (∀ (w4 : Int32) (w5 : Int32), w4.toInt = 0 → w5.toInt = 0 → Pt n X zM270 6 [some (.ref 72), some (.int x1), some (.int x2), some (.int x3), some (.int w4), some (.int w5)] [] h (qI P))) : Pt (n + 1) X zM270 0 [some (.ref 72), some (.int x1), some (.int x2), some (.int x3), none, none] [] h (qI P) := by
  refine pt_iconst gx270_0 (fun v1 h1 => ?_)
  refine pt_d (pt_1 (fun n d => r_istore (L' := [some (.ref 72), some (.int x1), some (.int x2), some (.int x3), some (.int v1), none]) gx270_1 rfl rfl) ?_)
  refine pt_d (pt_iconst gx270_3 (fun v2 h2 => ?_))
  refine pt_d (pt_1 (fun n d => r_istore (L' := [some (.ref 72), some (.int x1), some (.int x2), some (.int x3), some (.int v1), some (.int v2)]) gx270_4 rfl rfl) ?_)
  exact H v1 v2 h1 h2
theorem d270_6 {n : Nat} {X : aX} {h : aH} {P : Int → aH → Prop} {x1 x2 x3 x4 x5 : Int32} {a1 a2 a3 a4 a5 : Int} (S : wS h) (z1 : x1.toInt = a1) (z2 : x2.toInt = a2) (z3 : x3.toInt = a3) (z4 : x4.toInt = a4) (z5 : x5.toInt = a5) (H : ((vw h 72 19 ≤ a5 → P a4 h) ∧ (a5 < vw h 72 19 → (0 ≤ a5 → a5 < 300 → ((vw h 103 a5 = 0 → (∀ (w5 : Int32), w5.toInt = w32 (a5 + 1) → Pt n X zM270 6 [some (.ref 72), some (.int x1), some (.int x2), some (.int x3), some (.int x4), some (.int w5)] [] h (qI P))) ∧ (vw h 103 a5 ≠ 0 → ((vw h 87 a5 ≠ a1 → (∀ (w5 : Int32), w5.toInt = w32 (a5 + 1) → Pt n X zM270 6 [some (.ref 72), some (.int x1), some (.int x2), some (.int x3), some (.int x4), some (.int w5)] [] h (qI P))) ∧ (vw h 87 a5 = a1 → ((iDiv ((vw h) 90 a5) 365 ≠ a2 → (∀ (w5 : Int32), w5.toInt = w32 (a5 + 1) → Pt n X zM270 6 [some (.ref 72), some (.int x1), some (.int x2), some (.int x3), some (.int x4), some (.int w5)] [] h (qI P))) ∧ (iDiv ((vw h) 90 a5) 365 = a2 → ((a3 = 0 → (∀ (w4 : Int32) (w5 : Int32), w4.toInt = w32 (a4 + (vw h 104 a5)) → w5.toInt = w32 (a5 + 1) → Pt n X zM270 6 [some (.ref 72), some (.int x1), some (.int x2), some (.int x3), some (.int w4), some (.int w5)] [] h (qI P))) ∧ (a3 ≠ 0 → (∀ (w4 : Int32) (w5 : Int32), w4.toInt = w32 (a4 + (vw h 105 a5)) → w5.toInt = w32 (a5 + 1) → Pt n X zM270 6 [some (.ref 72), some (.int x1), some (.int x2), some (.int x3), some (.int w4), some (.int w5)] [] h (qI P)))))))))))))) : Pt (n + 1) X zM270 6 [some (.ref 72), some (.int x1), some (.int x2), some (.int x3), some (.int x4), some (.int x5)] [] h (qI P) := by
  refine pt_1 (fun n d => r_iload gx270_6 rfl) ?_
  refine pt_d (pt_1 (fun n d => r_aloadn gx270_8 rfl) ?_)
  refine pt_d (pt_getI (B := 19) gx270_9 S (fun v1 h1 => ?_))
  refine pt_d (pt_icmp_ge gx270_12 z5 h1 (fun e2 => ?_) (fun e2 => ?_))
  · have H := H.1 e2
    refine pt_d (pt_1 (fun n d => r_iload gx270_78 rfl) ?_)
    exact pt_d (pt_iret gx270_80 ⟨_, rfl, by rw [z4]; exact H⟩)
  · have H := H.2 e2
    refine pt_d (pt_1 (fun n d => r_aloadn gx270_15 rfl) ?_)
    refine pt_d (pt_getR gx270_16 S tr_72_40 ?_)
    refine pt_d (pt_1 (fun n d => r_iload gx270_19 rfl) ?_)
    refine pt_d (pt_zald (N' := 300) gx270_21 S tl_103 z5 (fun v4 p4 q4 h4 => ?_))
    have H := H p4 q4
    refine pt_d (pt_if_eq gx270_22 h4 (fun e5 => ?_) (fun e5 => ?_))
    · have H := H.1 e5
      refine pt_d (pt_iinc (c := 1) gx270_72 rfl z5 (fun v6 h6 => ?_))
      show Pt _ _ _ _ [some (.ref 72), some (.int x1), some (.int x2), some (.int x3), some (.int x4), some (.int v6)] [] _ _
      refine pt_d (pt_1 (fun n d => r_goto gx270_75) ?_)
      exact H v6 h6
    · have H := H.2 e5
      refine pt_d (pt_1 (fun n d => r_aloadn gx270_25 rfl) ?_)
      refine pt_d (pt_getR gx270_26 S tr_72_20 ?_)
      refine pt_d (pt_1 (fun n d => r_iload gx270_29 rfl) ?_)
      refine pt_d (pt_iald (N' := 300) gx270_31 S tl_87 z5 (fun v8 p8 q8 h8 => ?_))
      refine pt_d (pt_1 (fun n d => r_iloadn gx270_32 rfl) ?_)
      refine pt_d (pt_icmp_ne gx270_33 h8 z1 (fun e9 => ?_) (fun e9 => ?_))
      · have H := H.1 e9
        refine pt_d (pt_iinc (c := 1) gx270_72 rfl z5 (fun v10 h10 => ?_))
        show Pt _ _ _ _ [some (.ref 72), some (.int x1), some (.int x2), some (.int x3), some (.int x4), some (.int v10)] [] _ _
        refine pt_d (pt_1 (fun n d => r_goto gx270_75) ?_)
        exact H v10 h10
      · have H := H.2 e9
        refine pt_d (pt_1 (fun n d => r_aloadn gx270_36 rfl) ?_)
        refine pt_d (pt_1 (fun n d => r_iload gx270_37 rfl) ?_)
        refine pt_d (pt_virt (as := [.int x5]) (r := []) gx270_39 rfl (show zmt[229]? = some zM229 from rfl) rfl rfl rfl rfl (c_229 S z5) (kqP (fun v11 h11 => ?_)))
        show Pt _ _ _ 42 _ [.int v11] _ _
        refine pt_d (pt_1 (fun n d => r_iloadn gx270_42 rfl) ?_)
        refine pt_d (pt_icmp_ne gx270_43 h11 z2 (fun e12 => ?_) (fun e12 => ?_))
        · have H := H.1 e12
          refine pt_d (pt_iinc (c := 1) gx270_72 rfl z5 (fun v13 h13 => ?_))
          show Pt _ _ _ _ [some (.ref 72), some (.int x1), some (.int x2), some (.int x3), some (.int x4), some (.int v13)] [] _ _
          refine pt_d (pt_1 (fun n d => r_goto gx270_75) ?_)
          exact H v13 h13
        · have H := H.2 e12
          refine pt_d (pt_1 (fun n d => r_iload gx270_46 rfl) ?_)
          refine pt_d (pt_1 (fun n d => r_iloadn gx270_48 rfl) ?_)
          refine pt_d (pt_if_eq gx270_49 z3 (fun e14 => ?_) (fun e14 => ?_))
          · have H := H.1 e14
            refine pt_d (pt_1 (fun n d => r_aloadn gx270_62 rfl) ?_)
            refine pt_d (pt_getR gx270_63 S tr_72_41 ?_)
            refine pt_d (pt_1 (fun n d => r_iload gx270_66 rfl) ?_)
            refine pt_d (pt_iald (N' := 300) gx270_68 S tl_104 z5 (fun v16 p16 q16 h16 => ?_))
            refine pt_d (pt_iadd gx270_69 z4 h16 (fun v17 h17 => ?_))
            refine pt_d (pt_1 (fun n d => r_istore (L' := [some (.ref 72), some (.int x1), some (.int x2), some (.int x3), some (.int v17), some (.int x5)]) gx270_70 rfl rfl) ?_)
            refine pt_d (pt_iinc (c := 1) gx270_72 rfl z5 (fun v18 h18 => ?_))
            show Pt _ _ _ _ [some (.ref 72), some (.int x1), some (.int x2), some (.int x3), some (.int v17), some (.int v18)] [] _ _
            refine pt_d (pt_1 (fun n d => r_goto gx270_75) ?_)
            exact H v17 v18 h17 h18
          · have H := H.2 e14
            refine pt_d (pt_1 (fun n d => r_aloadn gx270_52 rfl) ?_)
            refine pt_d (pt_getR gx270_53 S tr_72_42 ?_)
            refine pt_d (pt_1 (fun n d => r_iload gx270_56 rfl) ?_)
            refine pt_d (pt_iald (N' := 300) gx270_58 S tl_105 z5 (fun v20 p20 q20 h20 => ?_))
            refine pt_d (pt_1 (fun n d => r_goto gx270_59) ?_)
            refine pt_d (pt_iadd gx270_69 z4 h20 (fun v21 h21 => ?_))
            refine pt_d (pt_1 (fun n d => r_istore (L' := [some (.ref 72), some (.int x1), some (.int x2), some (.int x3), some (.int v21), some (.int x5)]) gx270_70 rfl rfl) ?_)
            refine pt_d (pt_iinc (c := 1) gx270_72 rfl z5 (fun v22 h22 => ?_))
            show Pt _ _ _ _ [some (.ref 72), some (.int x1), some (.int x2), some (.int x3), some (.int v21), some (.int v22)] [] _ _
            refine pt_d (pt_1 (fun n d => r_goto gx270_75) ?_)
            exact H v21 v22 h21 h22
noncomputable def mSm (V : vS) (f y : Int) (r : Nat) (n : Nat) : Int := sgm (fun c => pI (V 103 c ≠ 0 ∧ V 87 c = f ∧ iDiv (V 90 c) 365 = y) (V r c)) n
theorem mSm_s (V : vS) (f y : Int) (r n : Nat) : mSm V f y r (n + 1) = mSm V f y r n + pI (V 103 (n : Nat) ≠ 0 ∧ V 87 (n : Nat) = f ∧ iDiv (V 90 (n : Nat)) 365 = y) (V r (n : Nat)) := rfl
theorem l_270 {X : aX} {h : aH} {f y u : Int} (S : wS h) (hN : 0 ≤ vw h 72 19 ∧ vw h 72 19 ≤ 300) : ∀ (n : Nat) (x1 x2 x3 x4 x5 : Int32) (k : Nat), x1.toInt = f → x2.toInt = y → x3.toInt = u → x4.toInt = w32 (mSm (vw h) f y (if u = 0 then 104 else 105) k) → x5.toInt = (k : Int) → (k : Int) ≤ vw h 72 19 → Pt n X zM270 6 [some (.ref 72), some (.int x1), some (.int x2), some (.int x3), some (.int x4), some (.int x5)] [] h (qI (fun r h' => h' = h ∧ r = w32 (mSm (vw h) f y (if u = 0 then 104 else 105) (vw h 72 19).toNat))) := by
  intro n
  induction n with
  | zero => intros; exact pt_z
  | succ n ih =>
    intro x1 x2 x3 x4 x5 k h1 h2 h3 h4 h5 hk
    have skip : (k : Int) < vw h 72 19 → ¬ (vw h 103 (k : Nat) ≠ 0 ∧ vw h 87 (k : Nat) = f ∧ iDiv (vw h 90 (k : Nat)) 365 = y) → ∀ w5 : Int32, w5.toInt = w32 ((k : Int) + 1) → Pt n X zM270 6 [some (.ref 72), some (.int x1), some (.int x2), some (.int x3), some (.int x4), some (.int w5)] [] h (qI (fun r h' => h' = h ∧ r = w32 (mSm (vw h) f y (if u = 0 then 104 else 105) (vw h 72 19).toNat))) := by
      intro e z w5 g
      replace g := w_1 g (by omega) (by omega)
      refine ih x1 x2 x3 x4 w5 (k + 1) h1 h2 h3 ?_ (by omega) (by omega)
      rw [mSm_s, pI_f z, Int.add_zero]
      exact h4
    have take : (k : Int) < vw h 72 19 → (vw h 103 (k : Nat) ≠ 0 ∧ vw h 87 (k : Nat) = f ∧ iDiv (vw h 90 (k : Nat)) 365 = y) → ∀ w4 w5 : Int32, w4.toInt = w32 (x4.toInt + vw h (if u = 0 then 104 else 105) (k : Nat)) → w5.toInt = w32 ((k : Int) + 1) → Pt n X zM270 6 [some (.ref 72), some (.int x1), some (.int x2), some (.int x3), some (.int w4), some (.int w5)] [] h (qI (fun r h' => h' = h ∧ r = w32 (mSm (vw h) f y (if u = 0 then 104 else 105) (vw h 72 19).toNat))) := by
      intro e z w4 w5 g4 g
      replace g := w_1 g (by omega) (by omega)
      refine ih x1 x2 x3 w4 w5 (k + 1) h1 h2 h3 ?_ (by omega) (by omega)
      rw [mSm_s, pI_t z, g4, h4, w32_add]
    refine d270_6 S h1 h2 h3 rfl h5 ⟨fun e => ⟨rfl, ?_⟩, fun e p q => ⟨fun z w5 g => skip e (fun w => w.1 z) w5 g, fun z => ⟨fun z2 w5 g => skip e (fun w => z2 w.2.1) w5 g, fun z2 => ⟨fun z3 w5 g => skip e (fun w => z3 w.2.2) w5 g, fun z3 => ⟨fun z4 w4 w5 g4 g => take e ⟨z, z2, z3⟩ w4 w5 (by rw [g4, if_pos z4]) g, fun z4 w4 w5 g4 g => take e ⟨z, z2, z3⟩ w4 w5 (by rw [g4, if_neg z4]) g⟩⟩⟩⟩⟩
    rw [h4, show (vw h 72 19).toNat = k by omega]
theorem c_270 {n : Nat} {X : aX} {h : aH} {x1 x2 x3 : Int32} {a1 a2 a3 : Int} (S : wS h) (z1 : x1.toInt = a1) (z2 : x2.toInt = a2) (z3 : x3.toInt = a3) (hN : 0 ≤ vw h 72 19 ∧ vw h 72 19 ≤ 300) : Pt n X zM270 0 [some (.ref 72), some (.int x1), some (.int x2), some (.int x3), none, none] [] h (qI (fun r h' => h' = h ∧ r = w32 (mSm (vw h) a1 a2 (if a3 = 0 then 104 else 105) (vw h 72 19).toNat))) :=
  pt_d (d270_0 S z1 z2 z3 (fun w4 w5 g4 g5 => l_270 S hN n x1 x2 x3 w4 w5 0 z1 z2 z3 (by rw [g4]; rfl) g5 hN.1))

theorem d271_0 {n : Nat} {X : aX} {h : aH} {P : Int → aH → Prop} {x1 x2 : Int32} {a1 a2 : Int} (S : wS h) (z1 : x1.toInt = a1) (z2 : x2.toInt = a2) (H : ((0 ≤ vw h 72 19 ∧ vw h 72 19 ≤ 300) ∧ ((0 ≤ vw h 72 19 ∧ vw h 72 19 ≤ 300) ∧ ((w32 (mSm (vw h) a1 a2 (if (1 : Int) = 0 then 104 else 105) ((vw h) 72 19).toNat) ≠ 0 → P (min 999 (iDiv (w32 (100 * (w32 ((w32 (mSm (vw h) a1 a2 (if (0 : Int) = 0 then 104 else 105) ((vw h) 72 19).toNat)) - (w32 (mSm (vw h) a1 a2 (if (1 : Int) = 0 then 104 else 105) ((vw h) 72 19).toNat)))))) (w32 (mSm (vw h) a1 a2 (if (1 : Int) = 0 then 104 else 105) ((vw h) 72 19).toNat)))) h) ∧ (w32 (mSm (vw h) a1 a2 (if (1 : Int) = 0 then 104 else 105) ((vw h) 72 19).toNat) = 0 → ((w32 (mSm (vw h) a1 a2 (if (0 : Int) = 0 then 104 else 105) ((vw h) 72 19).toNat) ≠ 0 → P 999 h) ∧ (w32 (mSm (vw h) a1 a2 (if (0 : Int) = 0 then 104 else 105) ((vw h) 72 19).toNat) = 0 → P 0 h))))))) : Pt (n + 1) X zM271 0 [some (.ref 72), some (.int x1), some (.int x2), none, none] [] h (qI P) := by
  refine pt_1 (fun n d => r_aloadn gx271_0 rfl) ?_
  refine pt_d (pt_1 (fun n d => r_iloadn gx271_1 rfl) ?_)
  refine pt_d (pt_1 (fun n d => r_iloadn gx271_2 rfl) ?_)
  refine pt_d (pt_iconst gx271_3 (fun v1 h1 => ?_))
  obtain ⟨pr2, H⟩ := H
  refine pt_d (pt_virt (as := [.int x1, .int x2, .int v1]) (r := []) gx271_4 rfl (show zmt[270]? = some zM270 from rfl) rfl rfl rfl rfl (c_270 S z1 z2 h1 pr2) (kqP (fun v2 h2 => ?_)))
  show Pt _ _ _ 7 _ [.int v2] _ _
  refine pt_d (pt_1 (fun n d => r_istoren (L' := [some (.ref 72), some (.int x1), some (.int x2), some (.int v2), none]) gx271_7 rfl rfl) ?_)
  refine pt_d (pt_1 (fun n d => r_aloadn gx271_8 rfl) ?_)
  refine pt_d (pt_1 (fun n d => r_iloadn gx271_9 rfl) ?_)
  refine pt_d (pt_1 (fun n d => r_iloadn gx271_10 rfl) ?_)
  refine pt_d (pt_iconst gx271_11 (fun v3 h3 => ?_))
  obtain ⟨pr4, H⟩ := H
  refine pt_d (pt_virt (as := [.int x1, .int x2, .int v3]) (r := []) gx271_12 rfl (show zmt[270]? = some zM270 from rfl) rfl rfl rfl rfl (c_270 S z1 z2 h3 pr4) (kqP (fun v4 h4 => ?_)))
  show Pt _ _ _ 15 _ [.int v4] _ _
  refine pt_d (pt_1 (fun n d => r_istore (L' := [some (.ref 72), some (.int x1), some (.int x2), some (.int v2), some (.int v4)]) gx271_15 rfl rfl) ?_)
  refine pt_d (pt_1 (fun n d => r_iload gx271_17 rfl) ?_)
  refine pt_d (pt_if_ne gx271_19 h4 (fun e5 => ?_) (fun e5 => ?_))
  · have H := H.1 e5
    refine pt_d (pt_sipush gx271_34 (fun v6 h6 => ?_))
    refine pt_d (pt_bipush gx271_37 (fun v7 h7 => ?_))
    refine pt_d (pt_1 (fun n d => r_iloadn gx271_39 rfl) ?_)
    refine pt_d (pt_1 (fun n d => r_iload gx271_40 rfl) ?_)
    refine pt_d (pt_isub gx271_42 h2 h4 (fun v8 h8 => ?_))
    refine pt_d (pt_imul gx271_43 h7 h8 (fun v9 h9 => ?_))
    refine pt_d (pt_1 (fun n d => r_iload gx271_44 rfl) ?_)
    refine pt_d (pt_idiv gx271_46 h9 h4 (fun v10 h10 => ?_))
    refine pt_d (pt_stat (as := [.int v6, .int v10]) (r := []) gx271_47 rfl (show zmt[211]? = some zM211 from rfl) rfl rfl rfl rfl (c_211 S h6 h10) (kqP (fun v11 h11 => ?_)))
    show Pt _ _ _ 50 _ [.int v11] _ _
    exact pt_d (pt_iret gx271_50 ⟨_, rfl, by rw [h11]; exact H⟩)
  · have H := H.2 e5
    refine pt_d (pt_1 (fun n d => r_iloadn gx271_22 rfl) ?_)
    refine pt_d (pt_if_ne gx271_23 h2 (fun e12 => ?_) (fun e12 => ?_))
    · have H := H.1 e12
      refine pt_d (pt_sipush gx271_30 (fun v13 h13 => ?_))
      exact pt_d (pt_iret gx271_33 ⟨_, rfl, by rw [h13]; exact H⟩)
    · have H := H.2 e12
      refine pt_d (pt_iconst gx271_26 (fun v14 h14 => ?_))
      refine pt_d (pt_1 (fun n d => r_goto gx271_27) ?_)
      exact pt_d (pt_iret gx271_33 ⟨_, rfl, by rw [h14]; exact H⟩)
noncomputable def mErr (V : vS) (f y : Int) : Int := if w32 (mSm V f y 105 (V 72 19).toNat) = 0 then (if w32 (mSm V f y 104 (V 72 19).toNat) = 0 then 0 else 999) else min 999 (iDiv (w32 (100 * w32 (w32 (mSm V f y 104 (V 72 19).toNat) - w32 (mSm V f y 105 (V 72 19).toNat)))) (w32 (mSm V f y 105 (V 72 19).toNat)))
theorem c_271 {n : Nat} {X : aX} {h : aH} {x1 x2 : Int32} {a1 a2 : Int} (S : wS h) (z1 : x1.toInt = a1) (z2 : x2.toInt = a2) (hN : 0 ≤ vw h 72 19 ∧ vw h 72 19 ≤ 300) : Pt n X zM271 0 [some (.ref 72), some (.int x1), some (.int x2), none, none] [] h (qI (fun r h' => h' = h ∧ r = mErr (vw h) a1 a2)) := by
  refine pt_d (d271_0 S z1 z2 ⟨hN, hN, ?_⟩)
  rw [if_neg (show ¬ (1 : Int) = 0 by decide), if_pos (show (0 : Int) = 0 from rfl)]
  refine ⟨fun e => ⟨rfl, ?_⟩, fun e => ⟨fun e2 => ⟨rfl, ?_⟩, fun e2 => ⟨rfl, ?_⟩⟩⟩
  · unfold mErr
    rw [if_neg e]
  · unfold mErr
    rw [if_pos e, if_neg e2]
  · unfold mErr
    rw [if_pos e, if_pos e2]
noncomputable def cErr (V : vS) (q : Nat) (f : Int) : Int := if w32 (V (q + 5) f - V (q + 6) f) = 0 then (if V (q + 5) f = 0 then 0 else 999) else min 999 (iDiv (w32 (100 * V (q + 6) f)) (w32 (V (q + 5) f - V (q + 6) f)))
def PR102 (V : vS) (q : Nat) : Prop := V q 10 = ((q + 5 : Nat) : Int) ∧ V q 11 = ((q + 6 : Nat) : Int)

theorem d102_0 {n : Nat} {X : aX} {h : aH} {P : Int → aH → Prop} {x1 : Int32} {a1 : Int} {q0 : Nat} (S : wS h) (z1 : x1.toInt = a1) (H : ((vw h) q0 10 = (((q0 + 5) : Nat) : Int) ∧ (0 ≤ a1 → ((vw h) q0 11 = (((q0 + 6) : Nat) : Int) ∧ (0 ≤ a1 → ((w32 ((vw h (q0 + 5) a1) - (vw h (q0 + 6) a1)) ≠ 0 → ((vw h) q0 11 = (((q0 + 6) : Nat) : Int) ∧ (0 ≤ a1 → P (min 999 (iDiv (w32 (100 * (vw h (q0 + 6) a1))) (w32 ((vw h (q0 + 5) a1) - (vw h (q0 + 6) a1))))) h))) ∧ (w32 ((vw h (q0 + 5) a1) - (vw h (q0 + 6) a1)) = 0 → ((vw h) q0 10 = (((q0 + 5) : Nat) : Int) ∧ (0 ≤ a1 → ((vw h (q0 + 5) a1 ≠ 0 → P 999 h) ∧ (vw h (q0 + 5) a1 = 0 → P 0 h))))))))))) : Pt (n + 1) X zM102 0 [some (.ref q0), some (.int x1), none] [] h (qI P) := by
  refine pt_1 (fun n d => r_aloadn gx102_0 rfl) ?_
  obtain ⟨pr1, H⟩ := H
  refine pt_d (pt_getK (B := 10) gx102_1 S (pr1) ?_)
  refine pt_d (pt_1 (fun n d => r_iloadn gx102_4 rfl) ?_)
  refine pt_d (pt_ialdD gx102_5 z1 (fun v2 p2 h2 => ?_))
  have H := H p2
  refine pt_d (pt_1 (fun n d => r_aloadn gx102_6 rfl) ?_)
  obtain ⟨pr3, H⟩ := H
  refine pt_d (pt_getK (B := 11) gx102_7 S (pr3) ?_)
  refine pt_d (pt_1 (fun n d => r_iloadn gx102_10 rfl) ?_)
  refine pt_d (pt_ialdD gx102_11 z1 (fun v4 p4 h4 => ?_))
  have H := H p4
  refine pt_d (pt_isub gx102_12 h2 h4 (fun v5 h5 => ?_))
  refine pt_d (pt_1 (fun n d => r_istoren (L' := [some (.ref q0), some (.int x1), some (.int v5)]) gx102_13 rfl rfl) ?_)
  refine pt_d (pt_1 (fun n d => r_iloadn gx102_14 rfl) ?_)
  refine pt_d (pt_if_ne gx102_15 h5 (fun e6 => ?_) (fun e6 => ?_))
  · have H := H.1 e6
    refine pt_d (pt_sipush gx102_35 (fun v7 h7 => ?_))
    refine pt_d (pt_bipush gx102_38 (fun v8 h8 => ?_))
    refine pt_d (pt_1 (fun n d => r_aloadn gx102_40 rfl) ?_)
    obtain ⟨pr9, H⟩ := H
    refine pt_d (pt_getK (B := 11) gx102_41 S (pr9) ?_)
    refine pt_d (pt_1 (fun n d => r_iloadn gx102_44 rfl) ?_)
    refine pt_d (pt_ialdD gx102_45 z1 (fun v10 p10 h10 => ?_))
    have H := H p10
    refine pt_d (pt_imul gx102_46 h8 h10 (fun v11 h11 => ?_))
    refine pt_d (pt_1 (fun n d => r_iloadn gx102_47 rfl) ?_)
    refine pt_d (pt_idiv gx102_48 h11 h5 (fun v12 h12 => ?_))
    refine pt_d (pt_min gx102_49 rfl h7 h12 (fun v13 h13 => ?_))
    exact pt_d (pt_iret gx102_52 ⟨_, rfl, by rw [h13]; exact H⟩)
  · have H := H.2 e6
    refine pt_d (pt_1 (fun n d => r_aloadn gx102_18 rfl) ?_)
    obtain ⟨pr14, H⟩ := H
    refine pt_d (pt_getK (B := 10) gx102_19 S (pr14) ?_)
    refine pt_d (pt_1 (fun n d => r_iloadn gx102_22 rfl) ?_)
    refine pt_d (pt_ialdD gx102_23 z1 (fun v15 p15 h15 => ?_))
    have H := H p15
    refine pt_d (pt_if_ne gx102_24 h15 (fun e16 => ?_) (fun e16 => ?_))
    · have H := H.1 e16
      refine pt_d (pt_sipush gx102_31 (fun v17 h17 => ?_))
      exact pt_d (pt_iret gx102_34 ⟨_, rfl, by rw [h17]; exact H⟩)
    · have H := H.2 e16
      refine pt_d (pt_iconst gx102_27 (fun v18 h18 => ?_))
      refine pt_d (pt_1 (fun n d => r_goto gx102_28) ?_)
      exact pt_d (pt_iret gx102_34 ⟨_, rfl, by rw [h18]; exact H⟩)
theorem c_102 {n : Nat} {X : aX} {h : aH} {x1 : Int32} {a1 : Int} {q0 : Nat} (S : wS h) (z1 : x1.toInt = a1) (hp : PR102 (vw h) q0) : Pt n X zM102 0 [some (.ref q0), some (.int x1), none] [] h (qI (fun r h' => h' = h ∧ r = cErr (vw h) q0 a1)) := by
  refine pt_d (d102_0 S z1 ⟨hp.1, fun _ => ⟨hp.2, fun _ => ⟨fun e => ⟨hp.2, fun _ => ⟨rfl, ?_⟩⟩, fun e => ⟨hp.1, fun _ => ⟨fun e2 => ⟨rfl, ?_⟩, fun e2 => ⟨rfl, ?_⟩⟩⟩⟩⟩⟩)
  · unfold cErr
    rw [if_neg e]
  · unfold cErr
    rw [if_pos e, if_neg e2]
  · unfold cErr
    rw [if_pos e, if_pos e2]


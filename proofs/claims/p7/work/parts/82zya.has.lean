-- ===== has =====
theorem gx153_0 : aF 0 zM153.2.2.2.2.2.2.2 = some (0, (.aload_n 0), 1, 0, 0) := by decide +kernel
theorem gx153_1 : aF 1 zM153.2.2.2.2.2.2.2 = some (1, (.getfield 12), 3, 11, 0) := by decide +kernel
theorem gx153_4 : aF 4 zM153.2.2.2.2.2.2.2 = some (4, (.iload_n 1), 1, 0, 0) := by decide +kernel
theorem gx153_5 : aF 5 zM153.2.2.2.2.2.2.2 = some (5, (.invokevirtual 136), 3, 77, 0) := by decide +kernel
theorem gx153_8 : aF 8 zM153.2.2.2.2.2.2.2 = some (8, (.ifCond .eq 23), 3, 31, 0) := by decide +kernel
theorem gx153_31 : aF 31 zM153.2.2.2.2.2.2.2 = some (31, (.iconst (-1)), 1, 0, 0) := by decide +kernel
theorem gx153_32 : aF 32 zM153.2.2.2.2.2.2.2 = some (32, .ireturn, 1, 0, 0) := by decide +kernel
theorem gx153_11 : aF 11 zM153.2.2.2.2.2.2.2 = some (11, (.iload_n 2), 1, 0, 0) := by decide +kernel
theorem gx153_12 : aF 12 zM153.2.2.2.2.2.2.2 = some (12, (.iconst 0), 1, 0, 0) := by decide +kernel
theorem gx153_13 : aF 13 zM153.2.2.2.2.2.2.2 = some (13, (.bipush 23), 2, 0, 0) := by decide +kernel
theorem gx153_15 : aF 15 zM153.2.2.2.2.2.2.2 = some (15, (.invokestatic 85), 3, 137, 0) := by decide +kernel
theorem gx153_18 : aF 18 zM153.2.2.2.2.2.2.2 = some (18, (.ifCond .eq 13), 3, 31, 0) := by decide +kernel
theorem gx153_21 : aF 21 zM153.2.2.2.2.2.2.2 = some (21, (.iload_n 3), 1, 0, 0) := by decide +kernel
theorem gx153_22 : aF 22 zM153.2.2.2.2.2.2.2 = some (22, (.iconst 0), 1, 0, 0) := by decide +kernel
theorem gx153_23 : aF 23 zM153.2.2.2.2.2.2.2 = some (23, (.bipush 23), 2, 0, 0) := by decide +kernel
theorem gx153_25 : aF 25 zM153.2.2.2.2.2.2.2 = some (25, (.invokestatic 85), 3, 137, 0) := by decide +kernel
theorem gx153_28 : aF 28 zM153.2.2.2.2.2.2.2 = some (28, (.ifCond .ne 5), 3, 33, 0) := by decide +kernel
theorem gx153_33 : aF 33 zM153.2.2.2.2.2.2.2 = some (33, (.aload_n 0), 1, 0, 0) := by decide +kernel
theorem gx153_34 : aF 34 zM153.2.2.2.2.2.2.2 = some (34, (.getfield 12), 3, 11, 0) := by decide +kernel
theorem gx153_37 : aF 37 zM153.2.2.2.2.2.2.2 = some (37, (.iload_n 1), 1, 0, 0) := by decide +kernel
theorem gx153_38 : aF 38 zM153.2.2.2.2.2.2.2 = some (38, (.iload_n 3), 1, 0, 0) := by decide +kernel
theorem gx153_39 : aF 39 zM153.2.2.2.2.2.2.2 = some (39, (.invokevirtual 155), 3, 82, 0) := by decide +kernel
theorem gx153_42 : aF 42 zM153.2.2.2.2.2.2.2 = some (42, (.iload_n 2), 1, 0, 0) := by decide +kernel
theorem gx153_43 : aF 43 zM153.2.2.2.2.2.2.2 = some (43, .ishr, 1, 0, 0) := by decide +kernel
theorem gx153_44 : aF 44 zM153.2.2.2.2.2.2.2 = some (44, (.iconst 1), 1, 0, 0) := by decide +kernel
theorem gx153_45 : aF 45 zM153.2.2.2.2.2.2.2 = some (45, .iand, 1, 0, 0) := by decide +kernel
theorem gx153_46 : aF 46 zM153.2.2.2.2.2.2.2 = some (46, .ireturn, 1, 0, 0) := by decide +kernel
theorem gx223_0 : aF 0 zM223.2.2.2.2.2.2.2 = some (0, (.aload_n 0), 1, 0, 0) := by decide +kernel
theorem gx223_1 : aF 1 zM223.2.2.2.2.2.2.2 = some (1, (.iload_n 1), 1, 0, 0) := by decide +kernel
theorem gx223_2 : aF 2 zM223.2.2.2.2.2.2.2 = some (2, (.invokevirtual 322), 3, 203, 0) := by decide +kernel
theorem gx223_5 : aF 5 zM223.2.2.2.2.2.2.2 = some (5, (.ifCond .eq 23), 3, 28, 0) := by decide +kernel
theorem gx223_28 : aF 28 zM223.2.2.2.2.2.2.2 = some (28, (.iconst (-1)), 1, 0, 0) := by decide +kernel
theorem gx223_29 : aF 29 zM223.2.2.2.2.2.2.2 = some (29, (.goto 18), 3, 47, 0) := by decide +kernel
theorem gx223_47 : aF 47 zM223.2.2.2.2.2.2.2 = some (47, .ireturn, 1, 0, 0) := by decide +kernel
theorem gx223_8 : aF 8 zM223.2.2.2.2.2.2.2 = some (8, (.iload_n 2), 1, 0, 0) := by decide +kernel
theorem gx223_9 : aF 9 zM223.2.2.2.2.2.2.2 = some (9, (.iconst 0), 1, 0, 0) := by decide +kernel
theorem gx223_10 : aF 10 zM223.2.2.2.2.2.2.2 = some (10, (.bipush 23), 2, 0, 0) := by decide +kernel
theorem gx223_12 : aF 12 zM223.2.2.2.2.2.2.2 = some (12, (.invokestatic 258), 3, 196, 0) := by decide +kernel
theorem gx223_15 : aF 15 zM223.2.2.2.2.2.2.2 = some (15, (.ifCond .eq 13), 3, 28, 0) := by decide +kernel
theorem gx223_18 : aF 18 zM223.2.2.2.2.2.2.2 = some (18, (.iload_n 3), 1, 0, 0) := by decide +kernel
theorem gx223_19 : aF 19 zM223.2.2.2.2.2.2.2 = some (19, (.iconst 0), 1, 0, 0) := by decide +kernel
theorem gx223_20 : aF 20 zM223.2.2.2.2.2.2.2 = some (20, (.bipush 23), 2, 0, 0) := by decide +kernel
theorem gx223_22 : aF 22 zM223.2.2.2.2.2.2.2 = some (22, (.invokestatic 258), 3, 196, 0) := by decide +kernel
theorem gx223_25 : aF 25 zM223.2.2.2.2.2.2.2 = some (25, (.ifCond .ne 7), 3, 32, 0) := by decide +kernel
theorem gx223_32 : aF 32 zM223.2.2.2.2.2.2.2 = some (32, (.aload_n 0), 1, 0, 0) := by decide +kernel
theorem gx223_33 : aF 33 zM223.2.2.2.2.2.2.2 = some (33, (.getfield 31), 3, 12, 10) := by decide +kernel
theorem gx223_36 : aF 36 zM223.2.2.2.2.2.2.2 = some (36, (.bipush 24), 2, 0, 0) := by decide +kernel
theorem gx223_38 : aF 38 zM223.2.2.2.2.2.2.2 = some (38, (.iload_n 1), 1, 0, 0) := by decide +kernel
theorem gx223_39 : aF 39 zM223.2.2.2.2.2.2.2 = some (39, .imul, 1, 0, 0) := by decide +kernel
theorem gx223_40 : aF 40 zM223.2.2.2.2.2.2.2 = some (40, (.iload_n 3), 1, 0, 0) := by decide +kernel
theorem gx223_41 : aF 41 zM223.2.2.2.2.2.2.2 = some (41, .iadd, 1, 0, 0) := by decide +kernel
theorem gx223_42 : aF 42 zM223.2.2.2.2.2.2.2 = some (42, .iaload, 1, 0, 0) := by decide +kernel
theorem gx223_43 : aF 43 zM223.2.2.2.2.2.2.2 = some (43, (.iload_n 2), 1, 0, 0) := by decide +kernel
theorem gx223_44 : aF 44 zM223.2.2.2.2.2.2.2 = some (44, .ishr, 1, 0, 0) := by decide +kernel
theorem gx223_45 : aF 45 zM223.2.2.2.2.2.2.2 = some (45, (.iconst 1), 1, 0, 0) := by decide +kernel
theorem gx223_46 : aF 46 zM223.2.2.2.2.2.2.2 = some (46, .iand, 1, 0, 0) := by decide +kernel
theorem d153_0 {n : Nat} {X : aX} {h : aH} {P : Int → aH → Prop} {x1 x2 x3 : Int32} {a1 a2 a3 : Int} (S : wS h) (z1 : x1.toInt = a1) (z2 : x2.toInt = a2) (z3 : x3.toInt = a3) (H : ((¬ (cField (vw h) a1) → P (-1) h) ∧ ((cField (vw h) a1) → ((¬ (0 ≤ a2 ∧ a2 ≤ 23) → P (-1) h) ∧ ((0 ≤ a2 ∧ a2 ≤ 23) → (((0 ≤ a3 ∧ a3 ≤ 23) → P (bAnd (bShr ((vw h) 8 (w32 (w32 (a1 * 24) + a3))) a2) 1) h) ∧ (¬ (0 ≤ a3 ∧ a3 ≤ 23) → P (-1) h))))))) : Pt (n + 1) X zM153 0 [some (.ref 0), some (.int x1), some (.int x2), some (.int x3)] [] h (qI P) := by
  refine pt_1 (fun n d => r_aloadn gx153_0 rfl) ?_
  refine pt_d (pt_getR gx153_1 S tr_0_0 ?_)
  refine pt_d (pt_1 (fun n d => r_iloadn gx153_4 rfl) ?_)
  refine pt_d (pt_virt (as := [.int x1]) (r := []) gx153_5 rfl (show zmt[77]? = some zM77 from rfl) rfl rfl rfl rfl (c_77 S z1) (kqP (fun v2 h2 => ?_)))
  show Pt _ _ _ 8 _ [.int v2] _ _
  refine pt_d (pt_ifB_eq gx153_8 h2 (fun e3 => ?_) (fun e3 => ?_))
  · have H := H.1 e3
    refine pt_d (pt_iconst gx153_31 (fun v4 h4 => ?_))
    exact pt_d (pt_iret gx153_32 ⟨_, rfl, by rw [h4]; exact H⟩)
  · have H := H.2 e3
    refine pt_d (pt_1 (fun n d => r_iloadn gx153_11 rfl) ?_)
    refine pt_d (pt_iconst gx153_12 (fun v5 h5 => ?_))
    refine pt_d (pt_bipush gx153_13 (fun v6 h6 => ?_))
    refine pt_d (pt_stat (as := [.int x2, .int v5, .int v6]) (r := []) gx153_15 rfl (show zmt[137]? = some zM137 from rfl) rfl rfl rfl rfl (c_137 S z2 h5 h6) (kqP (fun v7 h7 => ?_)))
    show Pt _ _ _ 18 _ [.int v7] _ _
    refine pt_d (pt_ifB_eq gx153_18 h7 (fun e8 => ?_) (fun e8 => ?_))
    · have H := H.1 e8
      refine pt_d (pt_iconst gx153_31 (fun v9 h9 => ?_))
      exact pt_d (pt_iret gx153_32 ⟨_, rfl, by rw [h9]; exact H⟩)
    · have H := H.2 e8
      refine pt_d (pt_1 (fun n d => r_iloadn gx153_21 rfl) ?_)
      refine pt_d (pt_iconst gx153_22 (fun v10 h10 => ?_))
      refine pt_d (pt_bipush gx153_23 (fun v11 h11 => ?_))
      refine pt_d (pt_stat (as := [.int x3, .int v10, .int v11]) (r := []) gx153_25 rfl (show zmt[137]? = some zM137 from rfl) rfl rfl rfl rfl (c_137 S z3 h10 h11) (kqP (fun v12 h12 => ?_)))
      show Pt _ _ _ 28 _ [.int v12] _ _
      refine pt_d (pt_ifB_ne gx153_28 h12 (fun e13 => ?_) (fun e13 => ?_))
      · have H := H.1 e13
        refine pt_d (pt_1 (fun n d => r_aloadn gx153_33 rfl) ?_)
        refine pt_d (pt_getR gx153_34 S tr_0_0 ?_)
        refine pt_d (pt_1 (fun n d => r_iloadn gx153_37 rfl) ?_)
        refine pt_d (pt_1 (fun n d => r_iloadn gx153_38 rfl) ?_)
        refine pt_d (pt_virt (as := [.int x1, .int x3]) (r := []) gx153_39 rfl (show zmt[82]? = some zM82 from rfl) rfl rfl rfl rfl (c_82 S z1 z3) (kqP (fun v15 h15 => ?_)))
        show Pt _ _ _ 42 _ [.int v15] _ _
        refine pt_d (pt_1 (fun n d => r_iloadn gx153_42 rfl) ?_)
        refine pt_d (pt_ishr gx153_43 h15 z2 (fun v16 h16 => ?_))
        refine pt_d (pt_iconst gx153_44 (fun v17 h17 => ?_))
        refine pt_d (pt_iand gx153_45 h16 h17 (fun v18 h18 => ?_))
        exact pt_d (pt_iret gx153_46 ⟨_, rfl, by rw [h18]; exact H⟩)
      · have H := H.2 e13
        refine pt_d (pt_iconst gx153_31 (fun v19 h19 => ?_))
        exact pt_d (pt_iret gx153_32 ⟨_, rfl, by rw [h19]; exact H⟩)
theorem d223_0 {n : Nat} {X : aX} {h : aH} {P : Int → aH → Prop} {x1 x2 x3 : Int32} {a1 a2 a3 : Int} (S : wS h) (z1 : x1.toInt = a1) (z2 : x2.toInt = a2) (z3 : x3.toInt = a3) (H : ((¬ (mField (vw h) a1) → P (-1) h) ∧ ((mField (vw h) a1) → ((¬ (0 ≤ a2 ∧ a2 ≤ 23) → P (-1) h) ∧ ((0 ≤ a2 ∧ a2 ≤ 23) → (((0 ≤ a3 ∧ a3 ≤ 23) → (0 ≤ w32 ((w32 (24 * a1)) + a3) → w32 ((w32 (24 * a1)) + a3) < 3600 → P (bAnd (bShr (vw h 80 (w32 ((w32 (24 * a1)) + a3))) a2) 1) h)) ∧ (¬ (0 ≤ a3 ∧ a3 ≤ 23) → P (-1) h))))))) : Pt (n + 1) X zM223 0 [some (.ref 72), some (.int x1), some (.int x2), some (.int x3)] [] h (qI P) := by
  refine pt_1 (fun n d => r_aloadn gx223_0 rfl) ?_
  refine pt_d (pt_1 (fun n d => r_iloadn gx223_1 rfl) ?_)
  refine pt_d (pt_virt (as := [.int x1]) (r := []) gx223_2 rfl (show zmt[203]? = some zM203 from rfl) rfl rfl rfl rfl (c_203 S z1) (kqP (fun v1 h1 => ?_)))
  show Pt _ _ _ 5 _ [.int v1] _ _
  refine pt_d (pt_ifB_eq gx223_5 h1 (fun e2 => ?_) (fun e2 => ?_))
  · have H := H.1 e2
    refine pt_d (pt_iconst gx223_28 (fun v3 h3 => ?_))
    refine pt_d (pt_1 (fun n d => r_goto gx223_29) ?_)
    exact pt_d (pt_iret gx223_47 ⟨_, rfl, by rw [h3]; exact H⟩)
  · have H := H.2 e2
    refine pt_d (pt_1 (fun n d => r_iloadn gx223_8 rfl) ?_)
    refine pt_d (pt_iconst gx223_9 (fun v4 h4 => ?_))
    refine pt_d (pt_bipush gx223_10 (fun v5 h5 => ?_))
    refine pt_d (pt_stat (as := [.int x2, .int v4, .int v5]) (r := []) gx223_12 rfl (show zmt[196]? = some zM196 from rfl) rfl rfl rfl rfl (c_196 S z2 h4 h5) (kqP (fun v6 h6 => ?_)))
    show Pt _ _ _ 15 _ [.int v6] _ _
    refine pt_d (pt_ifB_eq gx223_15 h6 (fun e7 => ?_) (fun e7 => ?_))
    · have H := H.1 e7
      refine pt_d (pt_iconst gx223_28 (fun v8 h8 => ?_))
      refine pt_d (pt_1 (fun n d => r_goto gx223_29) ?_)
      exact pt_d (pt_iret gx223_47 ⟨_, rfl, by rw [h8]; exact H⟩)
    · have H := H.2 e7
      refine pt_d (pt_1 (fun n d => r_iloadn gx223_18 rfl) ?_)
      refine pt_d (pt_iconst gx223_19 (fun v9 h9 => ?_))
      refine pt_d (pt_bipush gx223_20 (fun v10 h10 => ?_))
      refine pt_d (pt_stat (as := [.int x3, .int v9, .int v10]) (r := []) gx223_22 rfl (show zmt[196]? = some zM196 from rfl) rfl rfl rfl rfl (c_196 S z3 h9 h10) (kqP (fun v11 h11 => ?_)))
      show Pt _ _ _ 25 _ [.int v11] _ _
      refine pt_d (pt_ifB_ne gx223_25 h11 (fun e12 => ?_) (fun e12 => ?_))
      · have H := H.1 e12
        refine pt_d (pt_1 (fun n d => r_aloadn gx223_32 rfl) ?_)
        refine pt_d (pt_getR gx223_33 S tr_72_10 ?_)
        refine pt_d (pt_bipush gx223_36 (fun v14 h14 => ?_))
        refine pt_d (pt_1 (fun n d => r_iloadn gx223_38 rfl) ?_)
        refine pt_d (pt_imul gx223_39 h14 z1 (fun v15 h15 => ?_))
        refine pt_d (pt_1 (fun n d => r_iloadn gx223_40 rfl) ?_)
        refine pt_d (pt_iadd gx223_41 h15 z3 (fun v16 h16 => ?_))
        refine pt_d (pt_iald (N' := 3600) gx223_42 S tl_80 h16 (fun v17 p17 q17 h17 => ?_))
        have H := H p17 q17
        refine pt_d (pt_1 (fun n d => r_iloadn gx223_43 rfl) ?_)
        refine pt_d (pt_ishr gx223_44 h17 z2 (fun v18 h18 => ?_))
        refine pt_d (pt_iconst gx223_45 (fun v19 h19 => ?_))
        refine pt_d (pt_iand gx223_46 h18 h19 (fun v20 h20 => ?_))
        exact pt_d (pt_iret gx223_47 ⟨_, rfl, by rw [h20]; exact H⟩)
      · have H := H.2 e12
        refine pt_d (pt_iconst gx223_28 (fun v21 h21 => ?_))
        refine pt_d (pt_1 (fun n d => r_goto gx223_29) ?_)
        exact pt_d (pt_iret gx223_47 ⟨_, rfl, by rw [h21]; exact H⟩)
def okHas (V : vS) (f x y : Int) : Prop := cField V f ∧ (0 ≤ x ∧ x ≤ 23) ∧ 0 ≤ y ∧ y ≤ 23
def R153 (V : vS) (f x y r : Int) : Prop := (¬ okHas V f x y ∧ r = -1) ∨ (okHas V f x y ∧ r = bAnd (bShr (V 8 (24 * f + y)) x) 1)
theorem sz {f y : Int} (h0 : 0 ≤ f) (h1 : f < 150) (h2 : 0 ≤ y) (h3 : y ≤ 23) : w32 (w32 (f * 24) + y) = 24 * f + y := by
  rw [w32_id (z := f * 24) (by omega) (by omega), w32_id (by omega) (by omega)]
  omega
theorem sz' {f y : Int} (h0 : 0 ≤ f) (h1 : f < 150) (h2 : 0 ≤ y) (h3 : y ≤ 23) : w32 (w32 (24 * f) + y) = 24 * f + y := by
  rw [w32_id (z := 24 * f) (by omega) (by omega), w32_id (by omega) (by omega)]
theorem cField_b {V : vS} {f : Int} (k : cField V f) (hb : 0 ≤ V 1 1 ∧ V 1 1 ≤ 150) : 0 ≤ f ∧ f < 150 := by
  have h := k.1
  unfold cBody at h
  rw [w32_id (by omega) (by omega)] at h
  omega
theorem mField_b {V : vS} {f : Int} (k : mField V f) (hb : 0 ≤ V 72 2 ∧ V 72 2 ≤ 150) : 0 ≤ f ∧ f < 150 := by
  have h := k.1
  unfold mBody at h
  rw [w32_id (by omega) (by omega)] at h
  omega
theorem c_153 {n : Nat} {X : aX} {h : aH} {x1 x2 x3 : Int32} {a1 a2 a3 : Int} (S : wS h) (z1 : x1.toInt = a1) (z2 : x2.toInt = a2) (z3 : x3.toInt = a3) (hb : 0 ≤ vw h 1 1 ∧ vw h 1 1 ≤ 150) : Pt n X zM153 0 [some (.ref 0), some (.int x1), some (.int x2), some (.int x3)] [] h (qI (fun y h' => h' = h ∧ R153 (vw h) a1 a2 a3 y)) := by
  refine pt_d (d153_0 S z1 z2 z3 ⟨fun e => ⟨rfl, Or.inl ⟨fun z => e z.1, rfl⟩⟩, fun e => ⟨fun e2 => ⟨rfl, Or.inl ⟨fun z => e2 z.2.1, rfl⟩⟩, fun e2 => ⟨fun e3 => ⟨rfl, Or.inr ⟨⟨e, e2, e3⟩, ?_⟩⟩, fun e3 => ⟨rfl, Or.inl ⟨fun z => e3 z.2.2, rfl⟩⟩⟩⟩⟩)
  obtain ⟨f0, f1⟩ := cField_b e hb
  rw [sz f0 f1 e3.1 e3.2]
def okHam (V : vS) (f x y : Int) : Prop := mField V f ∧ (0 ≤ x ∧ x ≤ 23) ∧ 0 ≤ y ∧ y ≤ 23
def R223 (V : vS) (f x y r : Int) : Prop := (¬ okHam V f x y ∧ r = -1) ∨ (okHam V f x y ∧ r = bAnd (bShr (V 80 (24 * f + y)) x) 1)
theorem c_223 {n : Nat} {X : aX} {h : aH} {x1 x2 x3 : Int32} {a1 a2 a3 : Int} (S : wS h) (z1 : x1.toInt = a1) (z2 : x2.toInt = a2) (z3 : x3.toInt = a3) (hb : 0 ≤ vw h 72 2 ∧ vw h 72 2 ≤ 150) : Pt n X zM223 0 [some (.ref 72), some (.int x1), some (.int x2), some (.int x3)] [] h (qI (fun y h' => h' = h ∧ R223 (vw h) a1 a2 a3 y)) := by
  refine pt_d (d223_0 S z1 z2 z3 ⟨fun e => ⟨rfl, Or.inl ⟨fun z => e z.1, rfl⟩⟩, fun e => ⟨fun e2 => ⟨rfl, Or.inl ⟨fun z => e2 z.2.1, rfl⟩⟩, fun e2 => ⟨fun e3 _ _ => ⟨rfl, Or.inr ⟨⟨e, e2, e3⟩, ?_⟩⟩, fun e3 => ⟨rfl, Or.inl ⟨fun z => e3 z.2.2, rfl⟩⟩⟩⟩⟩)
  obtain ⟨f0, f1⟩ := mField_b e hb
  rw [sz' f0 f1 e3.1 e3.2]


-- ===== one sum =====
theorem d171_0 {n : Nat} {X : aX} {h : aH} {P : Int → aH → Prop} {x1 x2 x3 x4 : Int32} {a1 a2 a3 a4 : Int} (S : wS h) (z1 : x1.toInt = a1) (z2 : x2.toInt = a2) (z3 : x3.toInt = a3) (z4 : x4.toInt = a4) (H : ((¬ (cFarm (vw h) a1) → P (-2000000000) h) ∧ ((cFarm (vw h) a1) → ((¬ (0 ≤ a2 ∧ a2 ≤ 9) → P (-2000000000) h) ∧ ((0 ≤ a2 ∧ a2 ≤ 9) → ((¬ (0 ≤ a3 ∧ a3 ≤ 3649) → P (-2000000000) h) ∧ ((0 ≤ a3 ∧ a3 ≤ 3649) → (((0 ≤ a4 ∧ a4 ≤ 6) → ((pr8p h a1 a2 a3 (-1)) ∧ ∀ (y17 : Int) (h_17 : aH), (RP8 h a1 a2 a3 (-1) y17 h_17) → ((a4 ≠ 0 → ((a4 ≠ 6 → (0 ≤ a4 → a4 < 6 → P (vw h_17 45 a4) h_17)) ∧ (a4 = 6 → P (vw h_17 41 7) h_17))) ∧ (a4 = 0 → P y17 h_17)))) ∧ (¬ (0 ≤ a4 ∧ a4 ≤ 6) → P (-2000000000) h))))))))) : Pt (n + 1) X zM171 0 [some (.ref 0), some (.int x1), some (.int x2), some (.int x3), some (.int x4), none] [] h (qI P) := by
  refine pt_1 (fun n d => r_aloadn gx171_0 rfl) ?_
  refine pt_d (pt_getR gx171_1 S tr_0_0 ?_)
  refine pt_d (pt_1 (fun n d => r_iloadn gx171_4 rfl) ?_)
  refine pt_d (pt_virt (as := [.int x1]) (r := []) gx171_5 rfl (show zmt[75]? = some zM75 from rfl) rfl rfl rfl rfl (c_75 S z1) (kqP (fun v2 h2 => ?_)))
  show Pt _ _ _ 8 _ [.int v2] _ _
  refine pt_d (pt_ifB_eq gx171_8 h2 (fun e3 => ?_) (fun e3 => ?_))
  · have H := H.1 e3
    refine pt_d (pt_ldc (c := (-2000000000)) gx171_36 rfl (fun v4 h4 => ?_))
    exact pt_d (pt_iret gx171_38 ⟨_, rfl, by rw [h4]; exact H⟩)
  · have H := H.2 e3
    refine pt_d (pt_1 (fun n d => r_iloadn gx171_11 rfl) ?_)
    refine pt_d (pt_stat (as := [.int x2]) (r := []) gx171_12 rfl (show zmt[139]? = some zM139 from rfl) rfl rfl rfl rfl (c_139 S z2) (kqP (fun v5 h5 => ?_)))
    show Pt _ _ _ 15 _ [.int v5] _ _
    refine pt_d (pt_ifB_eq gx171_15 h5 (fun e6 => ?_) (fun e6 => ?_))
    · have H := H.1 e6
      refine pt_d (pt_ldc (c := (-2000000000)) gx171_36 rfl (fun v7 h7 => ?_))
      exact pt_d (pt_iret gx171_38 ⟨_, rfl, by rw [h7]; exact H⟩)
    · have H := H.2 e6
      refine pt_d (pt_1 (fun n d => r_iloadn gx171_18 rfl) ?_)
      refine pt_d (pt_stat (as := [.int x3]) (r := []) gx171_19 rfl (show zmt[138]? = some zM138 from rfl) rfl rfl rfl rfl (c_138 S z3) (kqP (fun v8 h8 => ?_)))
      show Pt _ _ _ 22 _ [.int v8] _ _
      refine pt_d (pt_ifB_eq gx171_22 h8 (fun e9 => ?_) (fun e9 => ?_))
      · have H := H.1 e9
        refine pt_d (pt_ldc (c := (-2000000000)) gx171_36 rfl (fun v10 h10 => ?_))
        exact pt_d (pt_iret gx171_38 ⟨_, rfl, by rw [h10]; exact H⟩)
      · have H := H.2 e9
        refine pt_d (pt_1 (fun n d => r_iload gx171_25 rfl) ?_)
        refine pt_d (pt_iconst gx171_27 (fun v11 h11 => ?_))
        refine pt_d (pt_bipush gx171_28 (fun v12 h12 => ?_))
        refine pt_d (pt_stat (as := [.int x4, .int v11, .int v12]) (r := []) gx171_30 rfl (show zmt[137]? = some zM137 from rfl) rfl rfl rfl rfl (c_137 S z4 h11 h12) (kqP (fun v13 h13 => ?_)))
        show Pt _ _ _ 33 _ [.int v13] _ _
        refine pt_d (pt_ifB_ne gx171_33 h13 (fun e14 => ?_) (fun e14 => ?_))
        · have H := H.1 e14
          refine pt_d (pt_1 (fun n d => r_aloadn gx171_39 rfl) ?_)
          refine pt_d (pt_getR gx171_40 S tr_0_4 ?_)
          refine pt_d (pt_1 (fun n d => r_iloadn gx171_43 rfl) ?_)
          refine pt_d (pt_1 (fun n d => r_iloadn gx171_44 rfl) ?_)
          refine pt_d (pt_1 (fun n d => r_iloadn gx171_45 rfl) ?_)
          refine pt_d (pt_iconst gx171_46 (fun v16 h16 => ?_))
          obtain ⟨pr17, H⟩ := H
          refine pt_d (pt_virt (as := [.int x1, .int x2, .int x3, .int v16]) (r := []) gx171_47 rfl (show zmt[8]? = some zM8 from rfl) rfl rfl rfl rfl (c_8p S z1 z2 z3 h16 pr17) (kqI (fun v17 y17 h_17 h17 P17 => ?_)))
          have S17 := P17.1
          have H := H y17 h_17 P17
          show Pt _ _ _ 50 _ [.int v17] _ _
          refine pt_d (pt_1 (fun n d => r_istore (L' := [some (.ref 0), some (.int x1), some (.int x2), some (.int x3), some (.int x4), some (.int v17)]) gx171_50 rfl rfl) ?_)
          refine pt_d (pt_1 (fun n d => r_iload gx171_52 rfl) ?_)
          refine pt_d (pt_if_ne gx171_54 z4 (fun e18 => ?_) (fun e18 => ?_))
          · have H := H.1 e18
            refine pt_d (pt_1 (fun n d => r_iload gx171_60 rfl) ?_)
            refine pt_d (pt_bipush gx171_62 (fun v19 h19 => ?_))
            refine pt_d (pt_icmp_ne gx171_64 z4 h19 (fun e20 => ?_) (fun e20 => ?_))
            · have H := H.1 e20
              refine pt_d (pt_1 (fun n d => r_aloadn gx171_77 rfl) ?_)
              refine pt_d (pt_getR gx171_78 S17 tr_0_4 ?_)
              refine pt_d (pt_getR gx171_81 S17 tr_41_6 ?_)
              refine pt_d (pt_1 (fun n d => r_iload gx171_84 rfl) ?_)
              refine pt_d (pt_iald (N' := 6) gx171_86 S17 tl_45 z4 (fun v23 p23 q23 h23 => ?_))
              have H := H p23 q23
              exact pt_d (pt_iret gx171_87 ⟨_, rfl, by rw [h23]; exact H⟩)
            · have H := H.2 e20
              refine pt_d (pt_1 (fun n d => r_aloadn gx171_67 rfl) ?_)
              refine pt_d (pt_getR gx171_68 S17 tr_0_4 ?_)
              refine pt_d (pt_getI (B := 7) gx171_71 S17 (fun v25 h25 => ?_))
              refine pt_d (pt_1 (fun n d => r_goto gx171_74) ?_)
              exact pt_d (pt_iret gx171_87 ⟨_, rfl, by rw [h25]; exact H⟩)
          · have H := H.2 e18
            refine pt_d (pt_1 (fun n d => r_iload gx171_57 rfl) ?_)
            exact pt_d (pt_iret gx171_59 ⟨_, rfl, by rw [h17]; exact H⟩)
        · have H := H.2 e14
          refine pt_d (pt_ldc (c := (-2000000000)) gx171_36 rfl (fun v26 h26 => ?_))
          exact pt_d (pt_iret gx171_38 ⟨_, rfl, by rw [h26]; exact H⟩)
theorem d278_0 {n : Nat} {X : aX} {h : aH} {P : Int → aH → Prop} {x1 x2 x3 x4 : Int32} {a1 a2 a3 a4 : Int} (S : wS h) (z1 : x1.toInt = a1) (z2 : x2.toInt = a2) (z3 : x3.toInt = a3) (z4 : x4.toInt = a4) (H : ((¬ (mFarm (vw h) a1) → P (-2000000000) h) ∧ ((mFarm (vw h) a1) → ((¬ (0 ≤ a2 ∧ a2 ≤ 9) → P (-2000000000) h) ∧ ((0 ≤ a2 ∧ a2 ≤ 9) → ((¬ (0 ≤ a3 ∧ a3 ≤ 3649) → P (-2000000000) h) ∧ ((0 ≤ a3 ∧ a3 ≤ 3649) → (((0 ≤ a4 ∧ a4 ≤ 6) → ((pr8p h a1 a2 a3 (-1)) ∧ ∀ (y15 : Int) (h_15 : aH), (RP277 h a1 a2 a3 (-1) y15 h_15) → ((a4 ≠ 6 → (0 ≤ a4 → a4 < 6 → P (vw h_15 128 a4) h_15)) ∧ (a4 = 6 → P (vw h_15 72 75) h_15)))) ∧ (¬ (0 ≤ a4 ∧ a4 ≤ 6) → P (-2000000000) h))))))))) : Pt (n + 1) X zM278 0 [some (.ref 72), some (.int x1), some (.int x2), some (.int x3), some (.int x4)] [] h (qI P) := by
  refine pt_1 (fun n d => r_aloadn gx278_0 rfl) ?_
  refine pt_d (pt_1 (fun n d => r_iloadn gx278_1 rfl) ?_)
  refine pt_d (pt_virt (as := [.int x1]) (r := []) gx278_2 rfl (show zmt[202]? = some zM202 from rfl) rfl rfl rfl rfl (c_202 S z1) (kqP (fun v1 h1 => ?_)))
  show Pt _ _ _ 5 _ [.int v1] _ _
  refine pt_d (pt_ifB_eq gx278_5 h1 (fun e2 => ?_) (fun e2 => ?_))
  · have H := H.1 e2
    refine pt_d (pt_ldc_w (c := (-2000000000)) gx278_33 rfl (fun v3 h3 => ?_))
    exact pt_d (pt_iret gx278_36 ⟨_, rfl, by rw [h3]; exact H⟩)
  · have H := H.2 e2
    refine pt_d (pt_1 (fun n d => r_iloadn gx278_8 rfl) ?_)
    refine pt_d (pt_stat (as := [.int x2]) (r := []) gx278_9 rfl (show zmt[198]? = some zM198 from rfl) rfl rfl rfl rfl (c_198 S z2) (kqP (fun v4 h4 => ?_)))
    show Pt _ _ _ 12 _ [.int v4] _ _
    refine pt_d (pt_ifB_eq gx278_12 h4 (fun e5 => ?_) (fun e5 => ?_))
    · have H := H.1 e5
      refine pt_d (pt_ldc_w (c := (-2000000000)) gx278_33 rfl (fun v6 h6 => ?_))
      exact pt_d (pt_iret gx278_36 ⟨_, rfl, by rw [h6]; exact H⟩)
    · have H := H.2 e5
      refine pt_d (pt_1 (fun n d => r_iloadn gx278_15 rfl) ?_)
      refine pt_d (pt_stat (as := [.int x3]) (r := []) gx278_16 rfl (show zmt[197]? = some zM197 from rfl) rfl rfl rfl rfl (c_197 S z3) (kqP (fun v7 h7 => ?_)))
      show Pt _ _ _ 19 _ [.int v7] _ _
      refine pt_d (pt_ifB_eq gx278_19 h7 (fun e8 => ?_) (fun e8 => ?_))
      · have H := H.1 e8
        refine pt_d (pt_ldc_w (c := (-2000000000)) gx278_33 rfl (fun v9 h9 => ?_))
        exact pt_d (pt_iret gx278_36 ⟨_, rfl, by rw [h9]; exact H⟩)
      · have H := H.2 e8
        refine pt_d (pt_1 (fun n d => r_iload gx278_22 rfl) ?_)
        refine pt_d (pt_iconst gx278_24 (fun v10 h10 => ?_))
        refine pt_d (pt_bipush gx278_25 (fun v11 h11 => ?_))
        refine pt_d (pt_stat (as := [.int x4, .int v10, .int v11]) (r := []) gx278_27 rfl (show zmt[196]? = some zM196 from rfl) rfl rfl rfl rfl (c_196 S z4 h10 h11) (kqP (fun v12 h12 => ?_)))
        show Pt _ _ _ 30 _ [.int v12] _ _
        refine pt_d (pt_ifB_ne gx278_30 h12 (fun e13 => ?_) (fun e13 => ?_))
        · have H := H.1 e13
          refine pt_d (pt_1 (fun n d => r_aloadn gx278_37 rfl) ?_)
          refine pt_d (pt_1 (fun n d => r_iloadn gx278_38 rfl) ?_)
          refine pt_d (pt_1 (fun n d => r_iloadn gx278_39 rfl) ?_)
          refine pt_d (pt_1 (fun n d => r_iloadn gx278_40 rfl) ?_)
          refine pt_d (pt_iconst gx278_41 (fun v14 h14 => ?_))
          obtain ⟨pr15, H⟩ := H
          refine pt_d (pt_virt (as := [.int x1, .int x2, .int x3, .int v14]) (r := []) gx278_42 rfl (show zmt[277]? = some zM277 from rfl) rfl rfl rfl rfl (c_277p S z1 z2 z3 h14 pr15) (kqI (fun v15 y15 h_15 h15 P15 => ?_)))
          have S15 := P15.1
          have H := H y15 h_15 P15
          show Pt _ _ _ 45 _ [.int v15] _ _
          refine pt_d (pt_1 (fun n d => r_pop gx278_45 rfl) ?_)
          refine pt_d (pt_1 (fun n d => r_iload gx278_46 rfl) ?_)
          refine pt_d (pt_bipush gx278_48 (fun v16 h16 => ?_))
          refine pt_d (pt_icmp_ne gx278_50 z4 h16 (fun e17 => ?_) (fun e17 => ?_))
          · have H := H.1 e17
            refine pt_d (pt_1 (fun n d => r_aloadn gx278_60 rfl) ?_)
            refine pt_d (pt_getR gx278_61 S15 tr_72_74 ?_)
            refine pt_d (pt_1 (fun n d => r_iload gx278_64 rfl) ?_)
            refine pt_d (pt_iald (N' := 6) gx278_66 S15 tl_128 z4 (fun v19 p19 q19 h19 => ?_))
            have H := H p19 q19
            exact pt_d (pt_iret gx278_67 ⟨_, rfl, by rw [h19]; exact H⟩)
          · have H := H.2 e17
            refine pt_d (pt_1 (fun n d => r_aloadn gx278_53 rfl) ?_)
            refine pt_d (pt_getI (B := 75) gx278_54 S15 (fun v20 h20 => ?_))
            refine pt_d (pt_1 (fun n d => r_goto gx278_57) ?_)
            exact pt_d (pt_iret gx278_67 ⟨_, rfl, by rw [h20]; exact H⟩)
        · have H := H.2 e13
          refine pt_d (pt_ldc_w (c := (-2000000000)) gx278_33 rfl (fun v21 h21 => ?_))
          exact pt_d (pt_iret gx278_36 ⟨_, rfl, by rw [h21]; exact H⟩)
def okP (V : vS) (f y t m : Int) : Prop := cFarm V f ∧ (0 ≤ y ∧ y ≤ 9) ∧ (0 ≤ t ∧ t ≤ 3649) ∧ 0 ≤ m ∧ m ≤ 6
def sP (s : Int → Int) (fl m : Int) : Int := if m = 6 then fl else if m = 0 then s 5 else s m
def R171 (V V' : vS) (f y t m r : Int) (W : vS) : Prop := (¬ okP V f y t m ∧ r = -2000000000 ∧ W = V') ∨ (okP V f y t m ∧ ∃ s fl, PAID V (NMf V f y t) f y t (-1) s fl ∧ r = sP s fl m ∧ uf V W)
theorem c_171w {n : Nat} {X : aX} {h : aH} {x1 x2 x3 x4 : Int32} {a1 a2 a3 a4 : Int} (S : wS h) (z1 : x1.toInt = a1) (z2 : x2.toInt = a2) (z3 : x3.toInt = a3) (z4 : x4.toInt = a4) (I : IV h) (B : PB (vw h)) : Pt n X zM171 0 [some (.ref 0), some (.int x1), some (.int x2), some (.int x3), some (.int x4), none] [] h (qI (fun r h' => R171 (vw h) (vw h) a1 a2 a3 a4 r (vw h') ∧ IV h')) := by
  have bad : ¬ okP (vw h) a1 a2 a3 a4 → R171 (vw h) (vw h) a1 a2 a3 a4 (-2000000000) (vw h) ∧ IV h := fun z => ⟨Or.inl ⟨z, rfl, rfl⟩, I⟩
  refine pt_d (d171_0 S z1 z2 z3 z4 ⟨fun e => bad (fun z => e z.1), fun e1 => ⟨fun e => bad (fun z => e z.2.1), fun e2 => ⟨fun e => bad (fun z => e z.2.2.1), fun e3 => ⟨fun e4 => ⟨⟨I, B, e1, e2, e3, Or.inl rfl⟩, fun y17 h17 k => ?_⟩, fun e => bad (fun z => e z.2.2.2)⟩⟩⟩⟩)
  obtain ⟨-, ⟨I', u⟩, ⟨ev, p⟩, -⟩ := k
  have good : ∀ r, r = sP (fun j => vw h17 45 j) (vw h17 41 7) a4 → R171 (vw h) (vw h) a1 a2 a3 a4 r (vw h17) ∧ IV h17 := fun r e => ⟨Or.inr ⟨⟨e1, e2, e3, e4⟩, _, _, p, e, u⟩, I'⟩
  refine ⟨fun n0 => ⟨fun n6 _ _ => good _ ?_, fun e6 => good _ ?_⟩, fun e0 => good _ ?_⟩
  · unfold sP
    rw [if_neg n6, if_neg n0]
  · unfold sP
    rw [if_pos e6]
  · unfold sP
    rw [if_neg (by omega), if_pos e0, ev]
    exact p.1.2.2.2.2.symm
def oPM (V : vS) (f y t m : Int) : Prop := mFarm V f ∧ (0 ≤ y ∧ y ≤ 9) ∧ (0 ≤ t ∧ t ≤ 3649) ∧ 0 ≤ m ∧ m ≤ 6
theorem okP_m {V : vS} (B : JBody V) (f y t m : Int) : oPM V f y t m ↔ okP V f y t m := by
  unfold oPM okP
  rw [farm_j B]
theorem c_278w {n : Nat} {X : aX} {h : aH} {x1 x2 x3 x4 : Int32} {a1 a2 a3 a4 : Int} (S : wS h) (z1 : x1.toInt = a1) (z2 : x2.toInt = a2) (z3 : x3.toInt = a3) (z4 : x4.toInt = a4) (I : IV h) (B : PB (vw h)) : Pt n X zM278 0 [some (.ref 72), some (.int x1), some (.int x2), some (.int x3), some (.int x4)] [] h (qI (fun r h' => R171 (vw h) (vw h) a1 a2 a3 a4 r (vw h') ∧ IV h')) := by
  have Bd := B.1.1.2.1
  have bad : ¬ oPM (vw h) a1 a2 a3 a4 → R171 (vw h) (vw h) a1 a2 a3 a4 (-2000000000) (vw h) ∧ IV h := fun z => ⟨Or.inl ⟨fun w => z ((okP_m Bd _ _ _ _).mpr w), rfl, rfl⟩, I⟩
  refine pt_d (d278_0 S z1 z2 z3 z4 ⟨fun e => bad (fun z => e z.1), fun e1 => ⟨fun e => bad (fun z => e z.2.1), fun e2 => ⟨fun e => bad (fun z => e z.2.2.1), fun e3 => ⟨fun e4 => ⟨⟨I, B, (farm_j Bd a1).mpr e1, e2, e3, Or.inl rfl⟩, fun y17 h17 k => ?_⟩, fun e => bad (fun z => e z.2.2.2)⟩⟩⟩⟩)
  obtain ⟨-, ⟨I', u⟩, ⟨ev, p⟩, e05, -⟩ := k
  have good : ∀ r, r = sP (fun j => vw h17 128 j) (vw h17 72 75) a4 → R171 (vw h) (vw h) a1 a2 a3 a4 r (vw h17) ∧ IV h17 := fun r e => ⟨Or.inr ⟨(okP_m Bd _ _ _ _).mp ⟨e1, e2, e3, e4⟩, _, _, p, e, u⟩, I'⟩
  refine ⟨fun n6 _ _ => good _ ?_, fun e6 => good _ ?_⟩
  · unfold sP
    rw [if_neg n6]
    by_cases z : a4 = 0
    · rw [if_pos z, z]
      exact e05
    · rw [if_neg z]
  · unfold sP
    rw [if_pos e6]
theorem PAID_q {V : vS} {N : Int → Int} {f y t r : Int} {s s' : Int → Int} {fl fl' m : Int} (a : PAID V N f y t r s fl) (b : PAID V N f y t r s' fl') (h : 0 ≤ m ∧ m ≤ 6) : sP s fl m = sP s' fl' m := by
  obtain ⟨⟨a1, a2, a3, a4, a5⟩, a6⟩ := a
  obtain ⟨⟨b1, b2, b3, b4, b5⟩, b6⟩ := b
  unfold sP
  by_cases z6 : m = 6
  · rw [if_pos z6, if_pos z6, a6, b6]
  rw [if_neg z6, if_neg z6]
  by_cases z0 : m = 0
  · rw [if_pos z0, if_pos z0, a5, b5]
  rw [if_neg z0, if_neg z0]
  obtain z | z | z | z | z : m = 1 ∨ m = 2 ∨ m = 3 ∨ m = 4 ∨ m = 5 := by omega
  all_goals (rw [z])
  · exact a1.trans b1.symm
  · exact a2.trans b2.symm
  · exact a3.trans b3.symm
  · exact a4.trans b4.symm
  · exact a5.trans b5.symm
theorem okP_u {V W : vS} (a : uf V W) (f y t m : Int) : okP W f y t m ↔ okP V f y t m := by
  unfold okP cFarm cBody
  rw [a 1 1 (by decide) (Or.inl (by decide)) (Or.inl (by decide)), a 2 f (by decide) (Or.inl (by decide)) (Or.inl (by decide))]
theorem PAID_f {V W : vS} (a : uf V W) {f y t r : Int} {s : Int → Int} {fl : Int} (p : PAID W (NMf W f y t) f y t r s fl) : PAID V (NMf V f y t) f y t r s fl := PAID_k (uf_p (uf_s a)) (fun j u v => (NMf_u a f y t j u v).symm) p
theorem jx_27 {h h1 h2 : aH} {f y t m r1 r2 : Int} (c : R171 (vw h) (vw h) f y t m r1 (vw h1) ∧ IV h1) (k : R171 (vw h1) (vw h1) f y t m r2 (vw h2) ∧ IV h2) : (JSea (vw h2) ∧ JRk (vw h2)) ∧ r1 = r2 := by
  refine ⟨⟨JSea_IV k.2, rOK_IV k.2⟩, ?_⟩
  rcases c.1 with ⟨n, rfl, e⟩ | ⟨o, s, fl, p, rfl, u⟩
  · rw [e] at k
    rcases k.1 with ⟨-, rfl, -⟩ | ⟨o, -⟩
    · rfl
    · exact absurd o n
  · rcases k.1 with ⟨n, -⟩ | ⟨-, s', fl', p', rfl, -⟩
    · exact absurd ((okP_u u _ _ _ _).mpr o) n
    · exact PAID_q p (PAID_f u p') o.2.2.2
theorem R171_u {V : vS} {f y t m r : Int} {W : vS} (c : R171 V V f y t m r W) : uf V W := by
  rcases c with ⟨-, -, rfl⟩ | ⟨-, s, fl, -, -, u⟩
  · exact uf_r _
  · exact u
theorem R171_B {V : vS} {f y t m r : Int} {W : vS} (B : PB V) (c : R171 V V f y t m r W) : PB W := by
  rcases c with ⟨-, -, rfl⟩ | ⟨-, s, fl, -, -, u⟩
  · exact B
  · exact PB_u u B


-- ===== seasons: the model reckons all =====
noncomputable def lt0 (V : vS) (c : Int) : Int := if 0 ≤ w32 (iRem (V 90 c) 365 - V 91 (V 74 (V 87 c))) then w32 (iRem (V 90 c) 365 - V 91 (V 74 (V 87 c))) else 0
theorem c_240 {n : Nat} {X : aX} {h : aH} {x1 : Int32} {a1 : Int} (S : wS h) (z1 : x1.toInt = a1) : Pt n X zM240 0 [some (.ref 72), some (.int x1), none] [] h (qI (fun y h' => h' = h ∧ y = lt0 (vw h) a1)) :=
  pt_d (d240_0 S z1 (fun _ _ _ _ _ _ => ⟨fun e => ⟨rfl, (if_pos e).symm⟩, fun e => ⟨rfl, (if_neg (by omega)).symm⟩⟩))

theorem d241_0 {n : Nat} {X : aX} {h : aH} {P : Int → aH → Prop} {x1 x2 x3 x4 : Int32} {a1 a2 a3 a4 : Int} (S : wS h) (z1 : x1.toInt = a1) (z2 : x2.toInt = a2) (z3 : x3.toInt = a3) (z4 : x4.toInt = a4) (H : ((q239 (vw h)) ∧ ∀ (h_1 : aH), (wS h_1 ∧ R239 (vw h) a4 (vw h_1)) → (∀ (w5 : Int32), w5.toInt = 0 → Pt n X zM241 9 [some (.ref 72), some (.int x1), some (.int x2), some (.int x3), some (.int x4), some (.int w5)] [] h_1 (qI P)))) : Pt (n + 1) X zM241 0 [some (.ref 72), some (.int x1), some (.int x2), some (.int x3), some (.int x4), none] [] h (qI P) := by
  refine pt_1 (fun n d => r_aloadn gx241_0 rfl) ?_
  refine pt_d (pt_1 (fun n d => r_iload gx241_1 rfl) ?_)
  obtain ⟨pr1, H⟩ := H
  refine pt_d (pt_virt (as := [.int x4]) (r := []) gx241_3 rfl (show zmt[239]? = some zM239 from rfl) rfl rfl rfl rfl (c_239 S z4 pr1) (kqN (fun h_1 P1 => ?_)))
  have S1 := P1.1
  have H := H h_1 P1
  show Pt _ _ _ 6 _ [] _ _
  refine pt_d (pt_iconst gx241_6 (fun v2 h2 => ?_))
  refine pt_d (pt_1 (fun n d => r_istore (L' := [some (.ref 72), some (.int x1), some (.int x2), some (.int x3), some (.int x4), some (.int v2)]) gx241_7 rfl rfl) ?_)
  exact H v2 h2
theorem d241_9 {n : Nat} {X : aX} {h : aH} {P : Int → aH → Prop} {x1 x2 x3 x4 x5 : Int32} {a1 a2 a3 a4 a5 : Int} (S : wS h) (z1 : x1.toInt = a1) (z2 : x2.toInt = a2) (z3 : x3.toInt = a3) (z4 : x4.toInt = a4) (z5 : x5.toInt = a5) (H : ((vw h 72 19 ≤ a5 → P (-1) h) ∧ (a5 < vw h 72 19 → (0 ≤ a5 → a5 < 300 → ((vw h 103 a5 = 0 → (∀ (w5 : Int32), w5.toInt = w32 (a5 + 1) → Pt n X zM241 9 [some (.ref 72), some (.int x1), some (.int x2), some (.int x3), some (.int x4), some (.int w5)] [] h (qI P))) ∧ (vw h 103 a5 ≠ 0 → ((vw h 87 a5 ≠ a1 → (∀ (w5 : Int32), w5.toInt = w32 (a5 + 1) → Pt n X zM241 9 [some (.ref 72), some (.int x1), some (.int x2), some (.int x3), some (.int x4), some (.int w5)] [] h (qI P))) ∧ (vw h 87 a5 = a1 → ((vw h 88 a5 ≠ a2 → (∀ (w5 : Int32), w5.toInt = w32 (a5 + 1) → Pt n X zM241 9 [some (.ref 72), some (.int x1), some (.int x2), some (.int x3), some (.int x4), some (.int w5)] [] h (qI P))) ∧ (vw h 88 a5 = a2 → ((iDiv ((vw h) 90 a5) 365 ≠ a3 → (∀ (w5 : Int32), w5.toInt = w32 (a5 + 1) → Pt n X zM241 9 [some (.ref 72), some (.int x1), some (.int x2), some (.int x3), some (.int x4), some (.int w5)] [] h (qI P))) ∧ (iDiv ((vw h) 90 a5) 365 = a3 → P a5 h)))))))))))) : Pt (n + 1) X zM241 9 [some (.ref 72), some (.int x1), some (.int x2), some (.int x3), some (.int x4), some (.int x5)] [] h (qI P) := by
  refine pt_1 (fun n d => r_iload gx241_9 rfl) ?_
  refine pt_d (pt_1 (fun n d => r_aloadn gx241_11 rfl) ?_)
  refine pt_d (pt_getI (B := 19) gx241_12 S (fun v1 h1 => ?_))
  refine pt_d (pt_icmp_ge gx241_15 z5 h1 (fun e2 => ?_) (fun e2 => ?_))
  · have H := H.1 e2
    refine pt_d (pt_iconst gx241_69 (fun v3 h3 => ?_))
    exact pt_d (pt_iret gx241_70 ⟨_, rfl, by rw [h3]; exact H⟩)
  · have H := H.2 e2
    refine pt_d (pt_1 (fun n d => r_aloadn gx241_18 rfl) ?_)
    refine pt_d (pt_getR gx241_19 S tr_72_40 ?_)
    refine pt_d (pt_1 (fun n d => r_iload gx241_22 rfl) ?_)
    refine pt_d (pt_zald (N' := 300) gx241_24 S tl_103 z5 (fun v5 p5 q5 h5 => ?_))
    have H := H p5 q5
    refine pt_d (pt_if_eq gx241_25 h5 (fun e6 => ?_) (fun e6 => ?_))
    · have H := H.1 e6
      refine pt_d (pt_iinc (c := 1) gx241_63 rfl z5 (fun v7 h7 => ?_))
      show Pt _ _ _ _ [some (.ref 72), some (.int x1), some (.int x2), some (.int x3), some (.int x4), some (.int v7)] [] _ _
      refine pt_d (pt_1 (fun n d => r_goto gx241_66) ?_)
      exact H v7 h7
    · have H := H.2 e6
      refine pt_d (pt_1 (fun n d => r_aloadn gx241_28 rfl) ?_)
      refine pt_d (pt_getR gx241_29 S tr_72_20 ?_)
      refine pt_d (pt_1 (fun n d => r_iload gx241_32 rfl) ?_)
      refine pt_d (pt_iald (N' := 300) gx241_34 S tl_87 z5 (fun v9 p9 q9 h9 => ?_))
      refine pt_d (pt_1 (fun n d => r_iloadn gx241_35 rfl) ?_)
      refine pt_d (pt_icmp_ne gx241_36 h9 z1 (fun e10 => ?_) (fun e10 => ?_))
      · have H := H.1 e10
        refine pt_d (pt_iinc (c := 1) gx241_63 rfl z5 (fun v11 h11 => ?_))
        show Pt _ _ _ _ [some (.ref 72), some (.int x1), some (.int x2), some (.int x3), some (.int x4), some (.int v11)] [] _ _
        refine pt_d (pt_1 (fun n d => r_goto gx241_66) ?_)
        exact H v11 h11
      · have H := H.2 e10
        refine pt_d (pt_1 (fun n d => r_aloadn gx241_39 rfl) ?_)
        refine pt_d (pt_getR gx241_40 S tr_72_21 ?_)
        refine pt_d (pt_1 (fun n d => r_iload gx241_43 rfl) ?_)
        refine pt_d (pt_iald (N' := 300) gx241_45 S tl_88 z5 (fun v13 p13 q13 h13 => ?_))
        refine pt_d (pt_1 (fun n d => r_iloadn gx241_46 rfl) ?_)
        refine pt_d (pt_icmp_ne gx241_47 h13 z2 (fun e14 => ?_) (fun e14 => ?_))
        · have H := H.1 e14
          refine pt_d (pt_iinc (c := 1) gx241_63 rfl z5 (fun v15 h15 => ?_))
          show Pt _ _ _ _ [some (.ref 72), some (.int x1), some (.int x2), some (.int x3), some (.int x4), some (.int v15)] [] _ _
          refine pt_d (pt_1 (fun n d => r_goto gx241_66) ?_)
          exact H v15 h15
        · have H := H.2 e14
          refine pt_d (pt_1 (fun n d => r_aloadn gx241_50 rfl) ?_)
          refine pt_d (pt_1 (fun n d => r_iload gx241_51 rfl) ?_)
          refine pt_d (pt_virt (as := [.int x5]) (r := []) gx241_53 rfl (show zmt[229]? = some zM229 from rfl) rfl rfl rfl rfl (c_229 S z5) (kqP (fun v16 h16 => ?_)))
          show Pt _ _ _ 56 _ [.int v16] _ _
          refine pt_d (pt_1 (fun n d => r_iloadn gx241_56 rfl) ?_)
          refine pt_d (pt_icmp_ne gx241_57 h16 z3 (fun e17 => ?_) (fun e17 => ?_))
          · have H := H.1 e17
            refine pt_d (pt_iinc (c := 1) gx241_63 rfl z5 (fun v18 h18 => ?_))
            show Pt _ _ _ _ [some (.ref 72), some (.int x1), some (.int x2), some (.int x3), some (.int x4), some (.int v18)] [] _ _
            refine pt_d (pt_1 (fun n d => r_goto gx241_66) ?_)
            exact H v18 h18
          · have H := H.2 e17
            refine pt_d (pt_1 (fun n d => r_iload gx241_60 rfl) ?_)
            exact pt_d (pt_iret gx241_62 ⟨_, rfl, by rw [z5]; exact H⟩)
def cl1 (V : vS) (f b y k c : Int) : Prop := mcn V c k ∧ V 87 c = f ∧ V 88 c = b ∧ iDiv (V 90 c) 365 = y
def R241 (V : vS) (f b y k r : Int) (W : vS) : Prop := R239 V k W ∧ ((r = -1 ∧ ∀ c, 0 ≤ c → c < V 72 19 → ¬ cl1 V f b y k c) ∨ ((0 ≤ r ∧ r < V 72 19) ∧ cl1 V f b y k r))
theorem l_241 {X : aX} {V : vS} {f b y k : Int} {h : aH} (S : wS h) (hN : 0 ≤ V 72 19 ∧ V 72 19 ≤ 300) (R : R239 V k (vw h)) : ∀ (n : Nat) (x1 x2 x3 x4 x5 : Int32) (c : Int), x1.toInt = f → x2.toInt = b → x3.toInt = y → x4.toInt = k → x5.toInt = c → 0 ≤ c → c ≤ V 72 19 → (∀ c', 0 ≤ c' → c' < c → ¬ cl1 V f b y k c') → Pt n X zM241 9 [some (.ref 72), some (.int x1), some (.int x2), some (.int x3), some (.int x4), some (.int x5)] [] h (qI (fun r h' => wS h' ∧ R241 V f b y k r (vw h'))) := by
  have e19 : vw h 72 19 = V 72 19 := agR_y R.1.1 (by decide) (by decide)
  intro n
  induction n with
  | zero => exact fun _ _ _ _ _ _ _ _ _ _ _ _ _ _ => pt_z
  | succ n ih =>
    intro x1 x2 x3 x4 x5 c h1 h2 h3 h4 h5 c0 cN no
    have e87 : vw h 87 c = V 87 c := agR_x R.1.1 87 c (by decide) (by decide)
    have e88 : vw h 88 c = V 88 c := agR_x R.1.1 88 c (by decide) (by decide)
    have e90 : vw h 90 c = V 90 c := agR_x R.1.1 90 c (by decide) (by decide)
    have next : ∀ w5 : Int32, c < V 72 19 → ¬ cl1 V f b y k c → w5.toInt = w32 (c + 1) → Pt n X zM241 9 [some (.ref 72), some (.int x1), some (.int x2), some (.int x3), some (.int x4), some (.int w5)] [] h (qI (fun r h' => wS h' ∧ R241 V f b y k r (vw h'))) := by
      intro w5 lt nc g5
      replace g5 := w_1 g5 (by omega) (by omega)
      refine ih x1 x2 x3 x4 w5 (c + 1) h1 h2 h3 h4 g5 (by omega) (by omega) (fun c' a z => ?_)
      by_cases w : c' = c
      · rw [w]; exact nc
      · exact no c' a (by omega)
    refine d241_9 S h1 h2 h3 h4 h5 ⟨fun e => ⟨S, R, Or.inl ⟨rfl, fun c' a z => no c' a (by omega)⟩⟩, fun e _ _ => ⟨fun e2 w5 g5 => next w5 (by omega) (fun z => by rw [R.1.2.2 c c0 (by omega), bI_t z.1] at e2; exact absurd e2 (by decide)) g5, fun e2 => ⟨fun e3 w5 g5 => next w5 (by omega) (fun z => e3 (e87.trans z.2.1)) g5, fun e3 => ⟨fun e4 w5 g5 => next w5 (by omega) (fun z => e4 (e88.trans z.2.2.1)) g5, fun e4 => ⟨fun e5 w5 g5 => next w5 (by omega) (fun z => e5 (by rw [e90]; exact z.2.2.2)) g5, fun e5 => ⟨S, R, Or.inr ⟨⟨c0, by omega⟩, Classical.byContradiction (fun w => e2 (by rw [R.1.2.2 c c0 (by omega), bI_f w])), e87.symm.trans e3, e88.symm.trans e4, by rw [← e90]; exact e5⟩⟩⟩⟩⟩⟩⟩
theorem c_241 {n : Nat} {X : aX} {h : aH} {x1 x2 x3 x4 : Int32} {a1 a2 a3 a4 : Int} (S : wS h) (z1 : x1.toInt = a1) (z2 : x2.toInt = a2) (z3 : x3.toInt = a3) (z4 : x4.toInt = a4) (hp : q239 (vw h)) : Pt n X zM241 0 [some (.ref 72), some (.int x1), some (.int x2), some (.int x3), some (.int x4), none] [] h (qI (fun r h' => wS h' ∧ R241 (vw h) a1 a2 a3 a4 r (vw h'))) :=
  pt_d (d241_0 S z1 z2 z3 z4 ⟨hp, fun g R w5 g5 => l_241 R.1 hp.1 R.2 n x1 x2 x3 x4 w5 0 z1 z2 z3 z4 g5 (Int.le_refl _) hp.1.1 (fun c' a b => by omega)⟩)

theorem d242_0 {n : Nat} {X : aX} {h : aH} {P : Int → aH → Prop} {x1 x2 x3 x4 x5 : Int32} {a1 a2 a3 a4 a5 : Int} (S : wS h) (z1 : x1.toInt = a1) (z2 : x2.toInt = a2) (z3 : x3.toInt = a3) (z4 : x4.toInt = a4) (z5 : x5.toInt = a5) (H : ((¬ (mFarm (vw h) a1) → P (-1) h) ∧ ((mFarm (vw h) a1) → ((¬ (mField (vw h) a2) → P (-1) h) ∧ ((mField (vw h) a2) → ((¬ (0 ≤ a3 ∧ a3 ≤ 9) → P (-1) h) ∧ ((0 ≤ a3 ∧ a3 ≤ 9) → ((¬ (0 ≤ a4 ∧ a4 ≤ 3649) → P (-1) h) ∧ ((0 ≤ a4 ∧ a4 ≤ 3649) → (((0 ≤ a5 ∧ a5 ≤ 4) → ((q239 (vw h)) ∧ ∀ (y17 : Int) (h_17 : aH), (wS h_17 ∧ R241 (vw h) a1 a2 a3 a4 y17 (vw h_17)) → ((0 ≤ y17 → ((a5 ≠ 0 → ((a5 ≠ 1 → ((a5 ≠ 2 → ((a5 ≠ 3 → P (lt0 (vw h_17) y17) h_17) ∧ (a5 = 3 → (0 ≤ y17 → y17 < 300 → P (vw h_17 106 y17) h_17)))) ∧ (a5 = 2 → (0 ≤ y17 → y17 < 300 → P (vw h_17 89 y17) h_17)))) ∧ (a5 = 1 → (0 ≤ y17 → y17 < 300 → P (vw h_17 105 y17) h_17)))) ∧ (a5 = 0 → (0 ≤ y17 → y17 < 300 → P (vw h_17 104 y17) h_17)))) ∧ (y17 < 0 → P (-2) h_17)))) ∧ (¬ (0 ≤ a5 ∧ a5 ≤ 4) → P (-1) h))))))))))) : Pt (n + 1) X zM242 0 [some (.ref 72), some (.int x1), some (.int x2), some (.int x3), some (.int x4), some (.int x5), none] [] h (qI P) := by
  refine pt_1 (fun n d => r_aloadn gx242_0 rfl) ?_
  refine pt_d (pt_1 (fun n d => r_iloadn gx242_1 rfl) ?_)
  refine pt_d (pt_virt (as := [.int x1]) (r := []) gx242_2 rfl (show zmt[202]? = some zM202 from rfl) rfl rfl rfl rfl (c_202 S z1) (kqP (fun v1 h1 => ?_)))
  show Pt _ _ _ 5 _ [.int v1] _ _
  refine pt_d (pt_ifB_eq gx242_5 h1 (fun e2 => ?_) (fun e2 => ?_))
  · have H := H.1 e2
    refine pt_d (pt_iconst gx242_41 (fun v3 h3 => ?_))
    exact pt_d (pt_iret gx242_42 ⟨_, rfl, by rw [h3]; exact H⟩)
  · have H := H.2 e2
    refine pt_d (pt_1 (fun n d => r_aloadn gx242_8 rfl) ?_)
    refine pt_d (pt_1 (fun n d => r_iloadn gx242_9 rfl) ?_)
    refine pt_d (pt_virt (as := [.int x2]) (r := []) gx242_10 rfl (show zmt[203]? = some zM203 from rfl) rfl rfl rfl rfl (c_203 S z2) (kqP (fun v4 h4 => ?_)))
    show Pt _ _ _ 13 _ [.int v4] _ _
    refine pt_d (pt_ifB_eq gx242_13 h4 (fun e5 => ?_) (fun e5 => ?_))
    · have H := H.1 e5
      refine pt_d (pt_iconst gx242_41 (fun v6 h6 => ?_))
      exact pt_d (pt_iret gx242_42 ⟨_, rfl, by rw [h6]; exact H⟩)
    · have H := H.2 e5
      refine pt_d (pt_1 (fun n d => r_iloadn gx242_16 rfl) ?_)
      refine pt_d (pt_stat (as := [.int x3]) (r := []) gx242_17 rfl (show zmt[198]? = some zM198 from rfl) rfl rfl rfl rfl (c_198 S z3) (kqP (fun v7 h7 => ?_)))
      show Pt _ _ _ 20 _ [.int v7] _ _
      refine pt_d (pt_ifB_eq gx242_20 h7 (fun e8 => ?_) (fun e8 => ?_))
      · have H := H.1 e8
        refine pt_d (pt_iconst gx242_41 (fun v9 h9 => ?_))
        exact pt_d (pt_iret gx242_42 ⟨_, rfl, by rw [h9]; exact H⟩)
      · have H := H.2 e8
        refine pt_d (pt_1 (fun n d => r_iload gx242_23 rfl) ?_)
        refine pt_d (pt_stat (as := [.int x4]) (r := []) gx242_25 rfl (show zmt[197]? = some zM197 from rfl) rfl rfl rfl rfl (c_197 S z4) (kqP (fun v10 h10 => ?_)))
        show Pt _ _ _ 28 _ [.int v10] _ _
        refine pt_d (pt_ifB_eq gx242_28 h10 (fun e11 => ?_) (fun e11 => ?_))
        · have H := H.1 e11
          refine pt_d (pt_iconst gx242_41 (fun v12 h12 => ?_))
          exact pt_d (pt_iret gx242_42 ⟨_, rfl, by rw [h12]; exact H⟩)
        · have H := H.2 e11
          refine pt_d (pt_1 (fun n d => r_iload gx242_31 rfl) ?_)
          refine pt_d (pt_iconst gx242_33 (fun v13 h13 => ?_))
          refine pt_d (pt_iconst gx242_34 (fun v14 h14 => ?_))
          refine pt_d (pt_stat (as := [.int x5, .int v13, .int v14]) (r := []) gx242_35 rfl (show zmt[196]? = some zM196 from rfl) rfl rfl rfl rfl (c_196 S z5 h13 h14) (kqP (fun v15 h15 => ?_)))
          show Pt _ _ _ 38 _ [.int v15] _ _
          refine pt_d (pt_ifB_ne gx242_38 h15 (fun e16 => ?_) (fun e16 => ?_))
          · have H := H.1 e16
            refine pt_d (pt_1 (fun n d => r_aloadn gx242_43 rfl) ?_)
            refine pt_d (pt_1 (fun n d => r_iloadn gx242_44 rfl) ?_)
            refine pt_d (pt_1 (fun n d => r_iloadn gx242_45 rfl) ?_)
            refine pt_d (pt_1 (fun n d => r_iloadn gx242_46 rfl) ?_)
            refine pt_d (pt_1 (fun n d => r_iload gx242_47 rfl) ?_)
            obtain ⟨pr17, H⟩ := H
            refine pt_d (pt_virt (as := [.int x1, .int x2, .int x3, .int x4]) (r := []) gx242_49 rfl (show zmt[241]? = some zM241 from rfl) rfl rfl rfl rfl (c_241 S z1 z2 z3 z4 pr17) (kqI (fun v17 y17 h_17 h17 P17 => ?_)))
            have S17 := P17.1
            have H := H y17 h_17 P17
            show Pt _ _ _ 52 _ [.int v17] _ _
            refine pt_d (pt_1 (fun n d => r_istore (L' := [some (.ref 72), some (.int x1), some (.int x2), some (.int x3), some (.int x4), some (.int x5), some (.int v17)]) gx242_52 rfl rfl) ?_)
            refine pt_d (pt_1 (fun n d => r_iload gx242_54 rfl) ?_)
            refine pt_d (pt_if_ge gx242_56 h17 (fun e18 => ?_) (fun e18 => ?_))
            · have H := H.1 e18
              refine pt_d (pt_1 (fun n d => r_iload gx242_62 rfl) ?_)
              refine pt_d (pt_if_ne gx242_64 z5 (fun e19 => ?_) (fun e19 => ?_))
              · have H := H.1 e19
                refine pt_d (pt_1 (fun n d => r_iload gx242_77 rfl) ?_)
                refine pt_d (pt_iconst gx242_79 (fun v20 h20 => ?_))
                refine pt_d (pt_icmp_ne gx242_80 z5 h20 (fun e21 => ?_) (fun e21 => ?_))
                · have H := H.1 e21
                  refine pt_d (pt_1 (fun n d => r_iload gx242_93 rfl) ?_)
                  refine pt_d (pt_iconst gx242_95 (fun v22 h22 => ?_))
                  refine pt_d (pt_icmp_ne gx242_96 z5 h22 (fun e23 => ?_) (fun e23 => ?_))
                  · have H := H.1 e23
                    refine pt_d (pt_1 (fun n d => r_iload gx242_109 rfl) ?_)
                    refine pt_d (pt_iconst gx242_111 (fun v24 h24 => ?_))
                    refine pt_d (pt_icmp_ne gx242_112 z5 h24 (fun e25 => ?_) (fun e25 => ?_))
                    · have H := H.1 e25
                      refine pt_d (pt_1 (fun n d => r_aloadn gx242_125 rfl) ?_)
                      refine pt_d (pt_1 (fun n d => r_iload gx242_126 rfl) ?_)
                      refine pt_d (pt_virt (as := [.int v17]) (r := []) gx242_128 rfl (show zmt[240]? = some zM240 from rfl) rfl rfl rfl rfl (c_240 S17 h17) (kqP (fun v26 h26 => ?_)))
                      show Pt _ _ _ 131 _ [.int v26] _ _
                      exact pt_d (pt_iret gx242_131 ⟨_, rfl, by rw [h26]; exact H⟩)
                    · have H := H.2 e25
                      refine pt_d (pt_1 (fun n d => r_aloadn gx242_115 rfl) ?_)
                      refine pt_d (pt_getR gx242_116 S17 tr_72_43 ?_)
                      refine pt_d (pt_1 (fun n d => r_iload gx242_119 rfl) ?_)
                      refine pt_d (pt_iald (N' := 300) gx242_121 S17 tl_106 h17 (fun v28 p28 q28 h28 => ?_))
                      have H := H p28 q28
                      refine pt_d (pt_1 (fun n d => r_goto gx242_122) ?_)
                      exact pt_d (pt_iret gx242_131 ⟨_, rfl, by rw [h28]; exact H⟩)
                  · have H := H.2 e23
                    refine pt_d (pt_1 (fun n d => r_aloadn gx242_99 rfl) ?_)
                    refine pt_d (pt_getR gx242_100 S17 tr_72_22 ?_)
                    refine pt_d (pt_1 (fun n d => r_iload gx242_103 rfl) ?_)
                    refine pt_d (pt_iald (N' := 300) gx242_105 S17 tl_89 h17 (fun v30 p30 q30 h30 => ?_))
                    have H := H p30 q30
                    refine pt_d (pt_1 (fun n d => r_goto gx242_106) ?_)
                    exact pt_d (pt_iret gx242_131 ⟨_, rfl, by rw [h30]; exact H⟩)
                · have H := H.2 e21
                  refine pt_d (pt_1 (fun n d => r_aloadn gx242_83 rfl) ?_)
                  refine pt_d (pt_getR gx242_84 S17 tr_72_42 ?_)
                  refine pt_d (pt_1 (fun n d => r_iload gx242_87 rfl) ?_)
                  refine pt_d (pt_iald (N' := 300) gx242_89 S17 tl_105 h17 (fun v32 p32 q32 h32 => ?_))
                  have H := H p32 q32
                  refine pt_d (pt_1 (fun n d => r_goto gx242_90) ?_)
                  exact pt_d (pt_iret gx242_131 ⟨_, rfl, by rw [h32]; exact H⟩)
              · have H := H.2 e19
                refine pt_d (pt_1 (fun n d => r_aloadn gx242_67 rfl) ?_)
                refine pt_d (pt_getR gx242_68 S17 tr_72_41 ?_)
                refine pt_d (pt_1 (fun n d => r_iload gx242_71 rfl) ?_)
                refine pt_d (pt_iald (N' := 300) gx242_73 S17 tl_104 h17 (fun v34 p34 q34 h34 => ?_))
                have H := H p34 q34
                refine pt_d (pt_1 (fun n d => r_goto gx242_74) ?_)
                exact pt_d (pt_iret gx242_131 ⟨_, rfl, by rw [h34]; exact H⟩)
            · have H := H.2 e18
              refine pt_d (pt_bipush gx242_59 (fun v35 h35 => ?_))
              exact pt_d (pt_iret gx242_61 ⟨_, rfl, by rw [h35]; exact H⟩)
          · have H := H.2 e16
            refine pt_d (pt_iconst gx242_41 (fun v36 h36 => ?_))
            exact pt_d (pt_iret gx242_42 ⟨_, rfl, by rw [h36]; exact H⟩)
theorem d243_0 {n : Nat} {X : aX} {h : aH} {P : Int → aH → Prop} {x1 x2 x3 x4 : Int32} {a1 a2 a3 a4 : Int} (S : wS h) (z1 : x1.toInt = a1) (z2 : x2.toInt = a2) (z3 : x3.toInt = a3) (z4 : x4.toInt = a4) (H : ((¬ (mFarm (vw h) a1) → P (-1) h) ∧ ((mFarm (vw h) a1) → ((¬ (mField (vw h) a2) → P (-1) h) ∧ ((mField (vw h) a2) → ((¬ (0 ≤ a3 ∧ a3 ≤ 9) → P (-1) h) ∧ ((0 ≤ a3 ∧ a3 ≤ 9) → (((0 ≤ a4 ∧ a4 ≤ 576) → ((q239 (vw h)) ∧ ∀ (y15 : Int) (h_15 : aH), (wS h_15 ∧ R241 (vw h) a1 a2 a3 (vw h 72 1) y15 (vw h_15)) → ((0 ≤ y15 → ((vw h_15 72 32 ≠ 200 → (0 ≤ vw h_15 72 32 → vw h_15 72 32 < 200 → ∀ h_41 : aH, wS h_41 → vw h_41 = up (up (up (up (up (up (up (vw h_15) 98 (vw h_15 72 32) a1) 99 (vw h_15 72 32) a2) 100 (vw h_15 72 32) a3) 101 (vw h_15 72 32) a4) 102 (vw h_15 72 32) (vw h_15 72 1)) 72 32 (w32 ((vw h_15 72 32) + 1))) 72 38 1 → P (w32 ((vw h_15 72 32) + 1)) h_41)) ∧ (vw h_15 72 32 = 200 → P (-3) h_15))) ∧ (y15 < 0 → P (-2) h_15)))) ∧ (¬ (0 ≤ a4 ∧ a4 ≤ 576) → P (-1) h))))))))) : Pt (n + 1) X zM243 0 [some (.ref 72), some (.int x1), some (.int x2), some (.int x3), some (.int x4)] [] h (qI P) := by
  refine pt_1 (fun n d => r_aloadn gx243_0 rfl) ?_
  refine pt_d (pt_1 (fun n d => r_iloadn gx243_1 rfl) ?_)
  refine pt_d (pt_virt (as := [.int x1]) (r := []) gx243_2 rfl (show zmt[202]? = some zM202 from rfl) rfl rfl rfl rfl (c_202 S z1) (kqP (fun v1 h1 => ?_)))
  show Pt _ _ _ 5 _ [.int v1] _ _
  refine pt_d (pt_ifB_eq gx243_5 h1 (fun e2 => ?_) (fun e2 => ?_))
  · have H := H.1 e2
    refine pt_d (pt_iconst gx243_35 (fun v3 h3 => ?_))
    exact pt_d (pt_iret gx243_36 ⟨_, rfl, by rw [h3]; exact H⟩)
  · have H := H.2 e2
    refine pt_d (pt_1 (fun n d => r_aloadn gx243_8 rfl) ?_)
    refine pt_d (pt_1 (fun n d => r_iloadn gx243_9 rfl) ?_)
    refine pt_d (pt_virt (as := [.int x2]) (r := []) gx243_10 rfl (show zmt[203]? = some zM203 from rfl) rfl rfl rfl rfl (c_203 S z2) (kqP (fun v4 h4 => ?_)))
    show Pt _ _ _ 13 _ [.int v4] _ _
    refine pt_d (pt_ifB_eq gx243_13 h4 (fun e5 => ?_) (fun e5 => ?_))
    · have H := H.1 e5
      refine pt_d (pt_iconst gx243_35 (fun v6 h6 => ?_))
      exact pt_d (pt_iret gx243_36 ⟨_, rfl, by rw [h6]; exact H⟩)
    · have H := H.2 e5
      refine pt_d (pt_1 (fun n d => r_iloadn gx243_16 rfl) ?_)
      refine pt_d (pt_stat (as := [.int x3]) (r := []) gx243_17 rfl (show zmt[198]? = some zM198 from rfl) rfl rfl rfl rfl (c_198 S z3) (kqP (fun v7 h7 => ?_)))
      show Pt _ _ _ 20 _ [.int v7] _ _
      refine pt_d (pt_ifB_eq gx243_20 h7 (fun e8 => ?_) (fun e8 => ?_))
      · have H := H.1 e8
        refine pt_d (pt_iconst gx243_35 (fun v9 h9 => ?_))
        exact pt_d (pt_iret gx243_36 ⟨_, rfl, by rw [h9]; exact H⟩)
      · have H := H.2 e8
        refine pt_d (pt_1 (fun n d => r_iload gx243_23 rfl) ?_)
        refine pt_d (pt_iconst gx243_25 (fun v10 h10 => ?_))
        refine pt_d (pt_sipush gx243_26 (fun v11 h11 => ?_))
        refine pt_d (pt_stat (as := [.int x4, .int v10, .int v11]) (r := []) gx243_29 rfl (show zmt[196]? = some zM196 from rfl) rfl rfl rfl rfl (c_196 S z4 h10 h11) (kqP (fun v12 h12 => ?_)))
        show Pt _ _ _ 32 _ [.int v12] _ _
        refine pt_d (pt_ifB_ne gx243_32 h12 (fun e13 => ?_) (fun e13 => ?_))
        · have H := H.1 e13
          refine pt_d (pt_1 (fun n d => r_aloadn gx243_37 rfl) ?_)
          refine pt_d (pt_1 (fun n d => r_iloadn gx243_38 rfl) ?_)
          refine pt_d (pt_1 (fun n d => r_iloadn gx243_39 rfl) ?_)
          refine pt_d (pt_1 (fun n d => r_iloadn gx243_40 rfl) ?_)
          refine pt_d (pt_1 (fun n d => r_aloadn gx243_41 rfl) ?_)
          refine pt_d (pt_getI (B := 1) gx243_42 S (fun v14 h14 => ?_))
          obtain ⟨pr15, H⟩ := H
          refine pt_d (pt_virt (as := [.int x1, .int x2, .int x3, .int v14]) (r := []) gx243_45 rfl (show zmt[241]? = some zM241 from rfl) rfl rfl rfl rfl (c_241 S z1 z2 z3 h14 pr15) (kqI (fun v15 y15 h_15 h15 P15 => ?_)))
          have S15 := P15.1
          have H := H y15 h_15 P15
          show Pt _ _ _ 48 _ [.int v15] _ _
          refine pt_d (pt_if_ge gx243_48 h15 (fun e16 => ?_) (fun e16 => ?_))
          · have H := H.1 e16
            refine pt_d (pt_1 (fun n d => r_aloadn gx243_54 rfl) ?_)
            refine pt_d (pt_getI (B := 32) gx243_55 S15 (fun v17 h17 => ?_))
            refine pt_d (pt_sipush gx243_58 (fun v18 h18 => ?_))
            refine pt_d (pt_icmp_ne gx243_61 h17 h18 (fun e19 => ?_) (fun e19 => ?_))
            · have H := H.1 e19
              refine pt_d (pt_1 (fun n d => r_aloadn gx243_67 rfl) ?_)
              refine pt_d (pt_getR gx243_68 S15 tr_72_33 ?_)
              refine pt_d (pt_1 (fun n d => r_aloadn gx243_71 rfl) ?_)
              refine pt_d (pt_getI (B := 32) gx243_72 S15 (fun v21 h21 => ?_))
              refine pt_d (pt_1 (fun n d => r_iloadn gx243_75 rfl) ?_)
              refine pt_d (pt_iast (N' := 200) gx243_76 S15 tl_98 h21 z1 (fun h_22 S22 p22 q22 e22 => ?_))
              have H := H p22 q22
              refine pt_d (pt_1 (fun n d => r_aloadn gx243_77 rfl) ?_)
              refine pt_d (pt_getR gx243_78 S22 tr_72_34 ?_)
              refine pt_d (pt_1 (fun n d => r_aloadn gx243_81 rfl) ?_)
              refine pt_d (pt_getI (B := 32) gx243_82 S22 (fun v24 h24 => ?_))
              have h24 : v24.toInt = vw h_15 72 32 := by rw [h24, e22, up_c (by decide)]
              refine pt_d (pt_1 (fun n d => r_iloadn gx243_85 rfl) ?_)
              refine pt_d (pt_iast (N' := 200) gx243_86 S22 tl_99 h24 z2 (fun h_25 S25 p25 q25 e25 => ?_))
              refine pt_d (pt_1 (fun n d => r_aloadn gx243_87 rfl) ?_)
              refine pt_d (pt_getR gx243_88 S25 tr_72_35 ?_)
              refine pt_d (pt_1 (fun n d => r_aloadn gx243_91 rfl) ?_)
              refine pt_d (pt_getI (B := 32) gx243_92 S25 (fun v27 h27 => ?_))
              have h27 : v27.toInt = vw h_15 72 32 := by rw [h27, e25, up_c (by decide), e22, up_c (by decide)]
              refine pt_d (pt_1 (fun n d => r_iloadn gx243_95 rfl) ?_)
              refine pt_d (pt_iast (N' := 200) gx243_96 S25 tl_100 h27 z3 (fun h_28 S28 p28 q28 e28 => ?_))
              refine pt_d (pt_1 (fun n d => r_aloadn gx243_97 rfl) ?_)
              refine pt_d (pt_getR gx243_98 S28 tr_72_36 ?_)
              refine pt_d (pt_1 (fun n d => r_aloadn gx243_101 rfl) ?_)
              refine pt_d (pt_getI (B := 32) gx243_102 S28 (fun v30 h30 => ?_))
              have h30 : v30.toInt = vw h_15 72 32 := by rw [h30, e28, up_c (by decide), e25, up_c (by decide), e22, up_c (by decide)]
              refine pt_d (pt_1 (fun n d => r_iload gx243_105 rfl) ?_)
              refine pt_d (pt_iast (N' := 200) gx243_107 S28 tl_101 h30 z4 (fun h_31 S31 p31 q31 e31 => ?_))
              refine pt_d (pt_1 (fun n d => r_aloadn gx243_108 rfl) ?_)
              refine pt_d (pt_getR gx243_109 S31 tr_72_37 ?_)
              refine pt_d (pt_1 (fun n d => r_aloadn gx243_112 rfl) ?_)
              refine pt_d (pt_getI (B := 32) gx243_113 S31 (fun v33 h33 => ?_))
              have h33 : v33.toInt = vw h_15 72 32 := by rw [h33, e31, up_c (by decide), e28, up_c (by decide), e25, up_c (by decide), e22, up_c (by decide)]
              refine pt_d (pt_1 (fun n d => r_aloadn gx243_116 rfl) ?_)
              refine pt_d (pt_getI (B := 1) gx243_117 S31 (fun v34 h34 => ?_))
              have h34 : v34.toInt = vw h_15 72 1 := by rw [h34, e31, up_c (by decide), e28, up_c (by decide), e25, up_c (by decide), e22, up_c (by decide)]
              refine pt_d (pt_iast (N' := 200) gx243_120 S31 tl_102 h33 h34 (fun h_35 S35 p35 q35 e35 => ?_))
              refine pt_d (pt_1 (fun n d => r_aloadn gx243_121 rfl) ?_)
              refine pt_d (pt_1 (fun n d => r_dup gx243_122 rfl) ?_)
              refine pt_d (pt_getI (B := 32) gx243_123 S35 (fun v36 h36 => ?_))
              have h36 : v36.toInt = vw h_15 72 32 := by rw [h36, e35, up_c (by decide), e31, up_c (by decide), e28, up_c (by decide), e25, up_c (by decide), e22, up_c (by decide)]
              refine pt_d (pt_iconst gx243_126 (fun v37 h37 => ?_))
              refine pt_d (pt_iadd gx243_127 h36 h37 (fun v38 h38 => ?_))
              refine pt_d (pt_putI (B := 32) gx243_128 S35 h38 (fun h_39 S39 e39 => ?_))
              refine pt_d (pt_1 (fun n d => r_aloadn gx243_131 rfl) ?_)
              refine pt_d (pt_iconst gx243_132 (fun v40 h40 => ?_))
              refine pt_d (pt_putI (B := 38) gx243_133 S39 h40 (fun h_41 S41 e41 => ?_))
              refine pt_d (pt_1 (fun n d => r_aloadn gx243_136 rfl) ?_)
              refine pt_d (pt_getI (B := 32) gx243_137 S41 (fun v42 h42 => ?_))
              have h42 : v42.toInt = w32 ((vw h_15 72 32) + 1) := by rw [h42, e41, up_j (by decide), e39, up_s]
              have H := H h_41 S41 (by rw [e41, e39, e35, e31, e28, e25, e22])
              exact pt_d (pt_iret gx243_140 ⟨_, rfl, by rw [h42]; exact H⟩)
            · have H := H.2 e19
              refine pt_d (pt_bipush gx243_64 (fun v43 h43 => ?_))
              exact pt_d (pt_iret gx243_66 ⟨_, rfl, by rw [h43]; exact H⟩)
          · have H := H.2 e16
            refine pt_d (pt_bipush gx243_51 (fun v44 h44 => ?_))
            exact pt_d (pt_iret gx243_53 ⟨_, rfl, by rw [h44]; exact H⟩)
        · have H := H.2 e13
          refine pt_d (pt_iconst gx243_35 (fun v45 h45 => ?_))
          exact pt_d (pt_iret gx243_36 ⟨_, rfl, by rw [h45]; exact H⟩)
theorem LkM_m {V W : vS} (A : agM V W) (k yr c : Int) : LkM W k yr c ↔ LkM V k yr c := by
  unfold LkM
  rw [mcn_m A, agM_x A 90 c (by decide) (by decide)]
theorem LkM_r {V W : vS} (A : agR V W) (k yr c : Int) : LkM W k yr c ↔ LkM V k yr c := LkM_m (agR_m A) k yr c
theorem DB_m {V W : vS} (A : agM V W) (k yr q : Int) : DB W k yr q ↔ DB V k yr q := by
  have e87 : ∀ j, W 87 j = V 87 j := fun j => agM_x A 87 j (by decide) (by decide)
  unfold DB
  simp only [LkM_m A, InM_m A, e87, agM_19 A]
theorem DB_r {V W : vS} (A : agR V W) (k yr q : Int) : DB W k yr q ↔ DB V k yr q := DB_m (agR_m A) k yr q
theorem tkQ_m {V W : vS} (A : agM V W) (k yr c q : Int) : tkQ W k yr c q ↔ tkQ V k yr c q := by
  have e87 : ∀ j, W 87 j = V 87 j := fun j => agM_x A 87 j (by decide) (by decide)
  have e88 : ∀ j, W 88 j = V 88 j := fun j => agM_x A 88 j (by decide) (by decide)
  unfold tkQ
  simp only [LkM_m A, InM_m A, e87, e88, agM_19 A]
theorem tkQ_r {V W : vS} (A : agR V W) (k yr c q : Int) : tkQ W k yr c q ↔ tkQ V k yr c q := tkQ_m (agR_m A) k yr c q
theorem gdR_m {V W : vS} (A : agM V W) (k yr c q : Int) : gdR W k yr c q ↔ gdR V k yr c q := by
  unfold gdR
  rw [DB_m A, tkQ_m A, InM_m A, isO_m A]
theorem gdR_r {V W : vS} (A : agR V W) (k yr c q : Int) : gdR W k yr c q ↔ gdR V k yr c q := gdR_m (agR_m A) k yr c q
theorem bdR_m {V W : vS} (A : agM V W) (k yr c q : Int) : bdR W k yr c q ↔ bdR V k yr c q := by
  unfold bdR
  rw [DB_m A, InM_m A]
theorem bdR_r {V W : vS} (A : agR V W) (k yr c q : Int) : bdR W k yr c q ↔ bdR V k yr c q := bdR_m (agR_m A) k yr c q
theorem vG_m {V W : vS} (A : agM V W) (k c : Int) : vG W k c = vG V k c := by
  unfold vG
  rw [agM_x A 90 c (by decide) (by decide)]
  exact nQ_c 576 (fun q _ _ => gdR_m A k _ c q)
theorem vG_r {V W : vS} (A : agR V W) (k c : Int) : vG W k c = vG V k c := vG_m (agR_m A) k c
theorem vB_m {V W : vS} (A : agM V W) (k c : Int) : vB W k c = vB V k c := by
  unfold vB
  rw [agM_x A 90 c (by decide) (by decide)]
  exact nQ_c 576 (fun q _ _ => bdR_m A k _ c q)
theorem vB_r {V W : vS} (A : agR V W) (k c : Int) : vB W k c = vB V k c := vB_m (agR_m A) k c
theorem vF_m {V W : vS} (A : agM V W) (k c : Int) : vF W k c = vF V k c := by
  unfold vF
  rw [vG_m A, mmg_m A, agM_32 A]
theorem vF_r {V W : vS} (A : agR V W) (k c : Int) : vF W k c = vF V k c := vF_m (agR_m A) k c
theorem lt0_m {V W : vS} (A : agM V W) (c : Int) : lt0 W c = lt0 V c := by
  have e91 : ∀ j, W 91 j = V 91 j := fun j => agM_x A 91 j (by decide) (by decide)
  have e74 : ∀ j, W 74 j = V 74 j := fun j => agM_x A 74 j (by decide) (by decide)
  unfold lt0
  rw [e91, e74, agM_x A 87 c (by decide) (by decide), agM_x A 90 c (by decide) (by decide)]
theorem lt0_r {V W : vS} (A : agR V W) (c : Int) : lt0 W c = lt0 V c := lt0_m (agR_m A) c
theorem rOK_R {V W : vS} {k : Int} (R : R239 V k W) : rOK W := by
  intro _
  have A := R.1.1
  have e19 : W 72 19 = V 72 19 := agR_y A (by decide) (by decide)
  rw [R.1.2.1.2]
  refine ⟨fun c a b => (R.1.2.2 c a (by omega)).trans (bI_c (mcn_r A c k).symm), fun c a b m z1 z2 => ?_⟩
  rw [agR_x A 90 c (by decide) (by decide)] at z1 z2
  have r := R.2 c a (by omega) ((mcn_r A c k).mp m) z1 z2
  exact ⟨r.1.trans (vG_r A k c).symm, r.2.1.trans (vB_r A k c).symm, r.2.2.trans (vF_r A k c).symm⟩
noncomputable def cval (V : vS) (k c w : Int) : Int := if w = 0 then vG V k c else if w = 1 then vF V k c else if w = 2 then V 89 c else if w = 3 then vB V k c else lt0 V c
def ok18 (V : vS) (f b y k w : Int) : Prop := mFarm V f ∧ mField V b ∧ (0 ≤ y ∧ y ≤ 9) ∧ (0 ≤ k ∧ k ≤ 3649) ∧ 0 ≤ w ∧ w ≤ 4
def an18 (V : vS) (f b y k w r : Int) : Prop := (¬ ok18 V f b y k w ∧ r = -1) ∨ (ok18 V f b y k w ∧ ((r = -2 ∧ ∀ c, 0 ≤ c → c < V 72 19 → ¬ cl1 V f b y k c) ∨ ∃ c, (0 ≤ c ∧ c < V 72 19) ∧ cl1 V f b y k c ∧ r = cval V k c w))
def R242 (V : vS) (f b y k w r : Int) (W : vS) : Prop := (agR V W ∧ rOK W) ∧ an18 V f b y k w r
theorem c_242 {n : Nat} {X : aX} {h : aH} {x1 x2 x3 x4 x5 : Int32} {a1 a2 a3 a4 a5 : Int} (S : wS h) (z1 : x1.toInt = a1) (z2 : x2.toInt = a2) (z3 : x3.toInt = a3) (z4 : x4.toInt = a4) (z5 : x5.toInt = a5) (hp : q239 (vw h)) : Pt n X zM242 0 [some (.ref 72), some (.int x1), some (.int x2), some (.int x3), some (.int x4), some (.int x5), none] [] h (qI (fun r h' => wS h' ∧ R242 (vw h) a1 a2 a3 a4 a5 r (vw h'))) := by
  have bad : ¬ ok18 (vw h) a1 a2 a3 a4 a5 → R242 (vw h) a1 a2 a3 a4 a5 (-1) (vw h) := fun z => ⟨⟨agR_r _, hp.2.2.2.2⟩, Or.inl ⟨z, rfl⟩⟩
  refine pt_d (d242_0 S z1 z2 z3 z4 z5 ⟨fun e => ⟨S, bad (fun z => e z.1)⟩, fun e1 => ⟨fun e => ⟨S, bad (fun z => e z.2.1)⟩, fun e2 => ⟨fun e => ⟨S, bad (fun z => e z.2.2.1)⟩, fun e3 => ⟨fun e => ⟨S, bad (fun z => e z.2.2.2.1)⟩, fun e4 => ⟨fun e5 => ⟨hp, fun y g R => ?_⟩, fun e => ⟨S, bad (fun z => e z.2.2.2.2)⟩⟩⟩⟩⟩⟩)
  obtain ⟨S2, R, D⟩ := R
  have A := R.1.1
  have K : agR (vw h) (vw g) ∧ rOK (vw g) := ⟨A, rOK_R R⟩
  have ok : ok18 (vw h) a1 a2 a3 a4 a5 := ⟨e1, e2, e3, e4, e5⟩
  have give : ∀ r, (0 ≤ y ∧ y < vw h 72 19) → cl1 (vw h) a1 a2 a3 a4 y → r = cval (vw h) a4 y a5 → R242 (vw h) a1 a2 a3 a4 a5 r (vw g) := fun r n c e => ⟨K, Or.inr ⟨ok, Or.inr ⟨y, n, c, e⟩⟩⟩
  rcases D with ⟨rfl, no⟩ | ⟨ny, cy⟩
  · exact ⟨fun z => absurd z (by decide), fun _ => ⟨S2, K, Or.inr ⟨ok, Or.inl ⟨rfl, no⟩⟩⟩⟩
  · have r := R.2 y ny.1 ny.2 cy.1 (by rw [cy.2.2.2]; exact e3.1) (by rw [cy.2.2.2]; have := e3.2; omega)
    refine ⟨fun _ => ⟨fun w0 => ⟨fun w1 => ⟨fun w2 => ⟨fun w3 => ⟨S2, give _ ny cy ?_⟩, fun w3 _ _ => ⟨S2, give _ ny cy ?_⟩⟩, fun w2 _ _ => ⟨S2, give _ ny cy ?_⟩⟩, fun w1 _ _ => ⟨S2, give _ ny cy ?_⟩⟩, fun w0 _ _ => ⟨S2, give _ ny cy ?_⟩⟩, fun z => by omega⟩
    · unfold cval
      rw [if_neg w0, if_neg w1, if_neg w2, if_neg w3, lt0_r A]
    · unfold cval
      rw [if_neg w0, if_neg w1, if_neg w2, if_pos w3, r.2.1]
    · unfold cval
      rw [if_neg w0, if_neg w1, if_pos w2, agR_x A 89 y (by decide) (by decide)]
    · unfold cval
      rw [if_neg w0, if_pos w1, r.2.2]
    · unfold cval
      rw [if_pos w0, r.1]
def ok19 (V : vS) (f b y m : Int) : Prop := mFarm V f ∧ mField V b ∧ (0 ≤ y ∧ y ≤ 9) ∧ 0 ≤ m ∧ m ≤ 576
def has1 (V : vS) (f b y k : Int) : Prop := ∃ c, (0 ≤ c ∧ c < V 72 19) ∧ cl1 V f b y k c
def R243 (V : vS) (f b y m r : Int) (W : vS) : Prop := ∃ U, (agR V U ∧ rOK U) ∧ ((¬ ok19 V f b y m ∧ r = -1 ∧ W = U) ∨ (ok19 V f b y m ∧ ((¬ has1 V f b y (V 72 1) ∧ r = -2 ∧ W = U) ∨ (has1 V f b y (V 72 1) ∧ ((V 72 32 = 200 ∧ r = -3 ∧ W = U) ∨ (V 72 32 ≠ 200 ∧ r = w32 (V 72 32 + 1) ∧ W = up (up (up (up (up (up (up U 98 (V 72 32) f) 99 (V 72 32) b) 100 (V 72 32) y) 101 (V 72 32) m) 102 (V 72 32) (V 72 1)) 72 32 (w32 (V 72 32 + 1))) 72 38 1))))))
theorem c_243 {n : Nat} {X : aX} {h : aH} {x1 x2 x3 x4 : Int32} {a1 a2 a3 a4 : Int} (S : wS h) (z1 : x1.toInt = a1) (z2 : x2.toInt = a2) (z3 : x3.toInt = a3) (z4 : x4.toInt = a4) (hp : q239 (vw h)) : Pt n X zM243 0 [some (.ref 72), some (.int x1), some (.int x2), some (.int x3), some (.int x4)] [] h (qI (fun r h' => wS h' ∧ R243 (vw h) a1 a2 a3 a4 r (vw h'))) := by
  have bad : ¬ ok19 (vw h) a1 a2 a3 a4 → R243 (vw h) a1 a2 a3 a4 (-1) (vw h) := fun z => ⟨_, ⟨agR_r _, hp.2.2.2.2⟩, Or.inl ⟨z, rfl, rfl⟩⟩
  refine pt_d (d243_0 S z1 z2 z3 z4 ⟨fun e => ⟨S, bad (fun z => e z.1)⟩, fun e1 => ⟨fun e => ⟨S, bad (fun z => e z.2.1)⟩, fun e2 => ⟨fun e => ⟨S, bad (fun z => e z.2.2.1)⟩, fun e3 => ⟨fun e4 => ⟨hp, fun y g R => ?_⟩, fun e => ⟨S, bad (fun z => e z.2.2.2)⟩⟩⟩⟩⟩)
  obtain ⟨S2, R, D⟩ := R
  have A := R.1.1
  have K : agR (vw h) (vw g) ∧ rOK (vw g) := ⟨A, rOK_R R⟩
  have ok : ok19 (vw h) a1 a2 a3 a4 := ⟨e1, e2, e3, e4⟩
  have e32 : vw g 72 32 = vw h 72 32 := agR_y A (by decide) (by decide)
  have e1' : vw g 72 1 = vw h 72 1 := agR_y A (by decide) (by decide)
  rcases D with ⟨rfl, no⟩ | ⟨ny, cy⟩
  · exact ⟨fun z => absurd z (by decide), fun _ => ⟨S2, _, K, Or.inr ⟨ok, Or.inl ⟨fun ⟨c, nc, hc⟩ => no c nc.1 nc.2 hc, rfl, rfl⟩⟩⟩⟩
  · refine ⟨fun _ => ⟨fun w _ _ f S3 ef => ⟨S3, _, K, Or.inr ⟨ok, Or.inr ⟨⟨y, ny, cy⟩, Or.inr ⟨by rw [← e32]; exact w, by rw [e32], by rw [ef, e32, e1']⟩⟩⟩⟩, fun w => ⟨S2, _, K, Or.inr ⟨ok, Or.inr ⟨⟨y, ny, cy⟩, Or.inl ⟨by rw [← e32]; exact w, rfl, rfl⟩⟩⟩⟩⟩, fun z => by omega⟩


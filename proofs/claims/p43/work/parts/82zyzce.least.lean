-- ===== 82zyzce.least: 5 texts =====
section
-- ===== the least land =====
theorem d283_0 {n : Nat} {X : aX} {h : aH} {P : Int → aH → Prop} {x1 x2 : Int32} {a1 a2 : Int} (S : wS h) (z1 : x1.toInt = a1) (z2 : x2.toInt = a2) (H : (0 ≤ a1 → a1 < 300 → (0 ≤ a2 → a2 < 300 → ((vw h 87 a1 = vw h 87 a2 → P 0 h) ∧ (vw h 87 a1 ≠ vw h 87 a2 → (((0 ≤ vw h 88 a1 ∧ vw h 88 a1 < 150) ∧ 0 ≤ vw h 88 a2 ∧ vw h 88 a2 < 150) ∧ ((¬ (mMt (vw h) (vw h 88 a1) (vw h 88 a2)) → P 0 h) ∧ ((mMt (vw h) (vw h 88 a1) (vw h 88 a2)) → P 1 h)))))))) : Pt (n + 1) X zM283 0 [some (.ref 72), some (.int x1), some (.int x2)] [] h (qI P) := by
  refine pt_1 (fun n d => r_aloadn gx283_0 rfl) ?_
  refine pt_d (pt_getR gx283_1 S tr_72_20 ?_)
  refine pt_d (pt_1 (fun n d => r_iloadn gx283_4 rfl) ?_)
  refine pt_d (pt_iald (N' := 300) gx283_5 S tl_87 z1 (fun v2 p2 q2 h2 => ?_))
  have H := H p2 q2
  refine pt_d (pt_1 (fun n d => r_aloadn gx283_6 rfl) ?_)
  refine pt_d (pt_getR gx283_7 S tr_72_20 ?_)
  refine pt_d (pt_1 (fun n d => r_iloadn gx283_10 rfl) ?_)
  refine pt_d (pt_iald (N' := 300) gx283_11 S tl_87 z2 (fun v4 p4 q4 h4 => ?_))
  have H := H p4 q4
  refine pt_d (pt_icmp_eq gx283_12 h2 h4 (fun e5 => ?_) (fun e5 => ?_))
  · have H := H.1 e5
    refine pt_d (pt_iconst gx283_38 (fun v6 h6 => ?_))
    exact pt_d (pt_iret gx283_39 ⟨_, rfl, by rw [h6]; exact H⟩)
  · have H := H.2 e5
    refine pt_d (pt_1 (fun n d => r_aloadn gx283_15 rfl) ?_)
    refine pt_d (pt_1 (fun n d => r_aloadn gx283_16 rfl) ?_)
    refine pt_d (pt_getR gx283_17 S tr_72_21 ?_)
    refine pt_d (pt_1 (fun n d => r_iloadn gx283_20 rfl) ?_)
    refine pt_d (pt_iald (N' := 300) gx283_21 S tl_88 z1 (fun v8 p8 q8 h8 => ?_))
    refine pt_d (pt_1 (fun n d => r_aloadn gx283_22 rfl) ?_)
    refine pt_d (pt_getR gx283_23 S tr_72_21 ?_)
    refine pt_d (pt_1 (fun n d => r_iloadn gx283_26 rfl) ?_)
    refine pt_d (pt_iald (N' := 300) gx283_27 S tl_88 z2 (fun v10 p10 q10 h10 => ?_))
    obtain ⟨pr11, H⟩ := H
    refine pt_d (pt_virt (as := [.int v8, .int v10]) (r := []) gx283_28 rfl (show zmt[282]? = some zM282 from rfl) rfl rfl rfl rfl (c_282 S h8 h10 pr11) (kqP (fun v11 h11 => ?_)))
    show Pt _ _ _ 31 _ [.int v11] _ _
    refine pt_d (pt_ifB_eq gx283_31 h11 (fun e12 => ?_) (fun e12 => ?_))
    · have H := H.1 e12
      refine pt_d (pt_iconst gx283_38 (fun v13 h13 => ?_))
      exact pt_d (pt_iret gx283_39 ⟨_, rfl, by rw [h13]; exact H⟩)
    · have H := H.2 e12
      refine pt_d (pt_iconst gx283_34 (fun v14 h14 => ?_))
      refine pt_d (pt_1 (fun n d => r_goto gx283_35) ?_)
      exact pt_d (pt_iret gx283_39 ⟨_, rfl, by rw [h14]; exact H⟩)
def mTr (V : vS) (c o : Int) : Prop := V 87 c ≠ V 87 o ∧ mMt V (V 88 c) (V 88 o)
def inY (V : vS) (y c : Int) : Prop := V 103 c ≠ 0 ∧ iDiv (V 90 c) 365 = y
theorem c_283 {n : Nat} {X : aX} {h : aH} {x1 x2 : Int32} {a1 a2 : Int} (S : wS h) (z1 : x1.toInt = a1) (z2 : x2.toInt = a2) (hp : ∀ c, 0 ≤ c → c < 300 → 0 ≤ vw h 88 c ∧ vw h 88 c < 150) : Pt n X zM283 0 [some (.ref 72), some (.int x1), some (.int x2)] [] h (qI (fun r h' => h' = h ∧ r = bI (mTr (vw h) a1 a2))) :=
  pt_d (d283_0 S z1 z2 (fun p q p2 q2 => ⟨fun e => ⟨rfl, (bI_f (fun z => z.1 e)).symm⟩, fun e => ⟨⟨hp _ p q, hp _ p2 q2⟩, fun z => ⟨rfl, (bI_f (fun y => z y.2)).symm⟩, fun z => ⟨rfl, (bI_t ⟨e, z⟩).symm⟩⟩⟩))

theorem d284_0 {n : Nat} {X : aX} {h : aH} {P : Int → aH → Prop} {x1 x2 : Int32} {a1 a2 : Int} (S : wS h) (z1 : x1.toInt = a1) (z2 : x2.toInt = a2) (H : (∀ (w3 : Int32) (u4_ : Option Value), w3.toInt = 0 → Pt n X zM284 2 [some (.ref 72), some (.int x1), some (.int x2), some (.int w3), u4_] [] h (qI P))) : Pt (n + 1) X zM284 0 [some (.ref 72), some (.int x1), some (.int x2), none, none] [] h (qI P) := by
  refine pt_iconst gx284_0 (fun v1 h1 => ?_)
  refine pt_d (pt_1 (fun n d => r_istoren (L' := [some (.ref 72), some (.int x1), some (.int x2), some (.int v1), none]) gx284_1 rfl rfl) ?_)
  exact H v1 _ h1
theorem d284_2 {n : Nat} {X : aX} {h : aH} {P : Int → aH → Prop} {x1 x2 x3 : Int32} {a1 a2 a3 : Int} {u4 : Option Value} (S : wS h) (z1 : x1.toInt = a1) (z2 : x2.toInt = a2) (z3 : x3.toInt = a3) (H : ((vw h 72 19 ≤ a3 → P 0 h) ∧ (a3 < vw h 72 19 → (0 ≤ a3 → a3 < 300 → ((vw h 103 a3 = 0 → (∀ (w3 : Int32) (u4_ : Option Value), w3.toInt = w32 (a3 + 1) → Pt n X zM284 2 [some (.ref 72), some (.int x1), some (.int x2), some (.int w3), u4_] [] h (qI P))) ∧ (vw h 103 a3 ≠ 0 → ((iDiv ((vw h) 90 a3) 365 ≠ a2 → (∀ (w3 : Int32) (u4_ : Option Value), w3.toInt = w32 (a3 + 1) → Pt n X zM284 2 [some (.ref 72), some (.int x1), some (.int x2), some (.int w3), u4_] [] h (qI P))) ∧ (iDiv ((vw h) 90 a3) 365 = a2 → ((vw h 88 a3 = a1 → (∀ (w4 : Int32), w4.toInt = 0 → Pt n X zM284 44 [some (.ref 72), some (.int x1), some (.int x2), some (.int x3), some (.int w4)] [] h (qI P))) ∧ (vw h 88 a3 ≠ a1 → (∀ (w3 : Int32) (u4_ : Option Value), w3.toInt = w32 (a3 + 1) → Pt n X zM284 2 [some (.ref 72), some (.int x1), some (.int x2), some (.int w3), u4_] [] h (qI P)))))))))))) : Pt (n + 1) X zM284 2 [some (.ref 72), some (.int x1), some (.int x2), some (.int x3), u4] [] h (qI P) := by
  refine pt_1 (fun n d => r_iloadn gx284_2 rfl) ?_
  refine pt_d (pt_1 (fun n d => r_aloadn gx284_3 rfl) ?_)
  refine pt_d (pt_getI (B := 19) gx284_4 S (fun v1 h1 => ?_))
  refine pt_d (pt_icmp_ge gx284_7 z3 h1 (fun e2 => ?_) (fun e2 => ?_))
  · have H := H.1 e2
    refine pt_d (pt_iconst gx284_97 (fun v3 h3 => ?_))
    exact pt_d (pt_iret gx284_98 ⟨_, rfl, by rw [h3]; exact H⟩)
  · have H := H.2 e2
    refine pt_d (pt_1 (fun n d => r_aloadn gx284_10 rfl) ?_)
    refine pt_d (pt_getR gx284_11 S tr_72_40 ?_)
    refine pt_d (pt_1 (fun n d => r_iloadn gx284_14 rfl) ?_)
    refine pt_d (pt_zald (N' := 300) gx284_15 S tl_103 z3 (fun v5 p5 q5 h5 => ?_))
    have H := H p5 q5
    refine pt_d (pt_if_eq gx284_16 h5 (fun e6 => ?_) (fun e6 => ?_))
    · have H := H.1 e6
      refine pt_d (pt_iinc (c := 1) gx284_91 rfl z3 (fun v7 h7 => ?_))
      show Pt _ _ _ _ [some (.ref 72), some (.int x1), some (.int x2), some (.int v7), u4] [] _ _
      refine pt_d (pt_1 (fun n d => r_goto gx284_94) ?_)
      exact H v7 _ h7
    · have H := H.2 e6
      refine pt_d (pt_1 (fun n d => r_aloadn gx284_19 rfl) ?_)
      refine pt_d (pt_1 (fun n d => r_iloadn gx284_20 rfl) ?_)
      refine pt_d (pt_virt (as := [.int x3]) (r := []) gx284_21 rfl (show zmt[229]? = some zM229 from rfl) rfl rfl rfl rfl (c_229 S z3) (kqP (fun v8 h8 => ?_)))
      show Pt _ _ _ 24 _ [.int v8] _ _
      refine pt_d (pt_1 (fun n d => r_iloadn gx284_24 rfl) ?_)
      refine pt_d (pt_icmp_ne gx284_25 h8 z2 (fun e9 => ?_) (fun e9 => ?_))
      · have H := H.1 e9
        refine pt_d (pt_iinc (c := 1) gx284_91 rfl z3 (fun v10 h10 => ?_))
        show Pt _ _ _ _ [some (.ref 72), some (.int x1), some (.int x2), some (.int v10), u4] [] _ _
        refine pt_d (pt_1 (fun n d => r_goto gx284_94) ?_)
        exact H v10 _ h10
      · have H := H.2 e9
        refine pt_d (pt_1 (fun n d => r_aloadn gx284_28 rfl) ?_)
        refine pt_d (pt_getR gx284_29 S tr_72_21 ?_)
        refine pt_d (pt_1 (fun n d => r_iloadn gx284_32 rfl) ?_)
        refine pt_d (pt_iald (N' := 300) gx284_33 S tl_88 z3 (fun v12 p12 q12 h12 => ?_))
        refine pt_d (pt_1 (fun n d => r_iloadn gx284_34 rfl) ?_)
        refine pt_d (pt_icmp_eq gx284_35 h12 z1 (fun e13 => ?_) (fun e13 => ?_))
        · have H := H.1 e13
          refine pt_d (pt_iconst gx284_41 (fun v14 h14 => ?_))
          refine pt_d (pt_1 (fun n d => r_istore (L' := [some (.ref 72), some (.int x1), some (.int x2), some (.int x3), some (.int v14)]) gx284_42 rfl rfl) ?_)
          exact H v14 h14
        · have H := H.2 e13
          refine pt_d (pt_1 (fun n d => r_goto gx284_38) ?_)
          refine pt_d (pt_iinc (c := 1) gx284_91 rfl z3 (fun v15 h15 => ?_))
          show Pt _ _ _ _ [some (.ref 72), some (.int x1), some (.int x2), some (.int v15), u4] [] _ _
          refine pt_d (pt_1 (fun n d => r_goto gx284_94) ?_)
          exact H v15 _ h15
theorem d284_44 {n : Nat} {X : aX} {h : aH} {P : Int → aH → Prop} {x1 x2 x3 x4 : Int32} {a1 a2 a3 a4 : Int} (S : wS h) (z1 : x1.toInt = a1) (z2 : x2.toInt = a2) (z3 : x3.toInt = a3) (z4 : x4.toInt = a4) (H : ((vw h 72 19 ≤ a4 → (∀ (w3 : Int32) (u4_ : Option Value), w3.toInt = w32 (a3 + 1) → Pt n X zM284 2 [some (.ref 72), some (.int x1), some (.int x2), some (.int w3), u4_] [] h (qI P))) ∧ (a4 < vw h 72 19 → (0 ≤ a4 → a4 < 300 → ((vw h 103 a4 = 0 → (∀ (w4 : Int32), w4.toInt = w32 (a4 + 1) → Pt n X zM284 44 [some (.ref 72), some (.int x1), some (.int x2), some (.int x3), some (.int w4)] [] h (qI P))) ∧ (vw h 103 a4 ≠ 0 → ((iDiv ((vw h) 90 a4) 365 ≠ a2 → (∀ (w4 : Int32), w4.toInt = w32 (a4 + 1) → Pt n X zM284 44 [some (.ref 72), some (.int x1), some (.int x2), some (.int x3), some (.int w4)] [] h (qI P))) ∧ (iDiv ((vw h) 90 a4) 365 = a2 → ((∀ c, 0 ≤ c → c < 300 → 0 ≤ vw h 88 c ∧ vw h 88 c < 150) ∧ ((¬ (mTr (vw h) a3 a4) → (∀ (w4 : Int32), w4.toInt = w32 (a4 + 1) → Pt n X zM284 44 [some (.ref 72), some (.int x1), some (.int x2), some (.int x3), some (.int w4)] [] h (qI P))) ∧ ((mTr (vw h) a3 a4) → P 1 h))))))))))) : Pt (n + 1) X zM284 44 [some (.ref 72), some (.int x1), some (.int x2), some (.int x3), some (.int x4)] [] h (qI P) := by
  refine pt_1 (fun n d => r_iload gx284_44 rfl) ?_
  refine pt_d (pt_1 (fun n d => r_aloadn gx284_46 rfl) ?_)
  refine pt_d (pt_getI (B := 19) gx284_47 S (fun v1 h1 => ?_))
  refine pt_d (pt_icmp_ge gx284_50 z4 h1 (fun e2 => ?_) (fun e2 => ?_))
  · have H := H.1 e2
    refine pt_d (pt_iinc (c := 1) gx284_91 rfl z3 (fun v3 h3 => ?_))
    show Pt _ _ _ _ [some (.ref 72), some (.int x1), some (.int x2), some (.int v3), some (.int x4)] [] _ _
    refine pt_d (pt_1 (fun n d => r_goto gx284_94) ?_)
    exact H v3 _ h3
  · have H := H.2 e2
    refine pt_d (pt_1 (fun n d => r_aloadn gx284_53 rfl) ?_)
    refine pt_d (pt_getR gx284_54 S tr_72_40 ?_)
    refine pt_d (pt_1 (fun n d => r_iload gx284_57 rfl) ?_)
    refine pt_d (pt_zald (N' := 300) gx284_59 S tl_103 z4 (fun v5 p5 q5 h5 => ?_))
    have H := H p5 q5
    refine pt_d (pt_if_eq gx284_60 h5 (fun e6 => ?_) (fun e6 => ?_))
    · have H := H.1 e6
      refine pt_d (pt_iinc (c := 1) gx284_85 rfl z4 (fun v7 h7 => ?_))
      show Pt _ _ _ _ [some (.ref 72), some (.int x1), some (.int x2), some (.int x3), some (.int v7)] [] _ _
      refine pt_d (pt_1 (fun n d => r_goto gx284_88) ?_)
      exact H v7 h7
    · have H := H.2 e6
      refine pt_d (pt_1 (fun n d => r_aloadn gx284_63 rfl) ?_)
      refine pt_d (pt_1 (fun n d => r_iload gx284_64 rfl) ?_)
      refine pt_d (pt_virt (as := [.int x4]) (r := []) gx284_66 rfl (show zmt[229]? = some zM229 from rfl) rfl rfl rfl rfl (c_229 S z4) (kqP (fun v8 h8 => ?_)))
      show Pt _ _ _ 69 _ [.int v8] _ _
      refine pt_d (pt_1 (fun n d => r_iloadn gx284_69 rfl) ?_)
      refine pt_d (pt_icmp_ne gx284_70 h8 z2 (fun e9 => ?_) (fun e9 => ?_))
      · have H := H.1 e9
        refine pt_d (pt_iinc (c := 1) gx284_85 rfl z4 (fun v10 h10 => ?_))
        show Pt _ _ _ _ [some (.ref 72), some (.int x1), some (.int x2), some (.int x3), some (.int v10)] [] _ _
        refine pt_d (pt_1 (fun n d => r_goto gx284_88) ?_)
        exact H v10 h10
      · have H := H.2 e9
        refine pt_d (pt_1 (fun n d => r_aloadn gx284_73 rfl) ?_)
        refine pt_d (pt_1 (fun n d => r_iloadn gx284_74 rfl) ?_)
        refine pt_d (pt_1 (fun n d => r_iload gx284_75 rfl) ?_)
        obtain ⟨pr11, H⟩ := H
        refine pt_d (pt_virt (as := [.int x3, .int x4]) (r := []) gx284_77 rfl (show zmt[283]? = some zM283 from rfl) rfl rfl rfl rfl (c_283 S z3 z4 pr11) (kqP (fun v11 h11 => ?_)))
        show Pt _ _ _ 80 _ [.int v11] _ _
        refine pt_d (pt_ifB_eq gx284_80 h11 (fun e12 => ?_) (fun e12 => ?_))
        · have H := H.1 e12
          refine pt_d (pt_iinc (c := 1) gx284_85 rfl z4 (fun v13 h13 => ?_))
          show Pt _ _ _ _ [some (.ref 72), some (.int x1), some (.int x2), some (.int x3), some (.int v13)] [] _ _
          refine pt_d (pt_1 (fun n d => r_goto gx284_88) ?_)
          exact H v13 h13
        · have H := H.2 e12
          refine pt_d (pt_iconst gx284_83 (fun v14 h14 => ?_))
          exact pt_d (pt_iret gx284_84 ⟨_, rfl, by rw [h14]; exact H⟩)
theorem d285_0 {n : Nat} {X : aX} {h : aH} {P : Int → aH → Prop} {x1 x2 : Int32} {a1 a2 : Int} (S : wS h) (z1 : x1.toInt = a1) (z2 : x2.toInt = a2) (H : (∀ (w3 : Int32), w3.toInt = 0 → Pt n X zM285 2 [some (.ref 72), some (.int x1), some (.int x2), some (.int w3)] [] h (qI P))) : Pt (n + 1) X zM285 0 [some (.ref 72), some (.int x1), some (.int x2), none] [] h (qI P) := by
  refine pt_iconst gx285_0 (fun v1 h1 => ?_)
  refine pt_d (pt_1 (fun n d => r_istoren (L' := [some (.ref 72), some (.int x1), some (.int x2), some (.int v1)]) gx285_1 rfl rfl) ?_)
  exact H v1 h1
theorem d285_2 {n : Nat} {X : aX} {h : aH} {P : Int → aH → Prop} {x1 x2 x3 : Int32} {a1 a2 a3 : Int} (S : wS h) (z1 : x1.toInt = a1) (z2 : x2.toInt = a2) (z3 : x3.toInt = a3) (H : ((vw h 72 79 ≤ a3 → P 0 h) ∧ (a3 < vw h 72 79 → ((bAnd (bShr a2 a3) 1 ≠ 1 → (∀ (w3 : Int32), w3.toInt = w32 (a3 + 1) → Pt n X zM285 2 [some (.ref 72), some (.int x1), some (.int x2), some (.int w3)] [] h (qI P))) ∧ (bAnd (bShr a2 a3) 1 = 1 → (0 ≤ a3 → a3 < 10 → ((vw h 132 a3 ≠ a1 → (∀ (w3 : Int32), w3.toInt = w32 (a3 + 1) → Pt n X zM285 2 [some (.ref 72), some (.int x1), some (.int x2), some (.int w3)] [] h (qI P))) ∧ (vw h 132 a3 = a1 → P 1 h)))))))) : Pt (n + 1) X zM285 2 [some (.ref 72), some (.int x1), some (.int x2), some (.int x3)] [] h (qI P) := by
  refine pt_1 (fun n d => r_iloadn gx285_2 rfl) ?_
  refine pt_d (pt_1 (fun n d => r_aloadn gx285_3 rfl) ?_)
  refine pt_d (pt_getI (B := 79) gx285_4 S (fun v1 h1 => ?_))
  refine pt_d (pt_icmp_ge gx285_7 z3 h1 (fun e2 => ?_) (fun e2 => ?_))
  · have H := H.1 e2
    refine pt_d (pt_iconst gx285_37 (fun v3 h3 => ?_))
    exact pt_d (pt_iret gx285_38 ⟨_, rfl, by rw [h3]; exact H⟩)
  · have H := H.2 e2
    refine pt_d (pt_1 (fun n d => r_iloadn gx285_10 rfl) ?_)
    refine pt_d (pt_1 (fun n d => r_iloadn gx285_11 rfl) ?_)
    refine pt_d (pt_ishr gx285_12 z2 z3 (fun v4 h4 => ?_))
    refine pt_d (pt_iconst gx285_13 (fun v5 h5 => ?_))
    refine pt_d (pt_iand gx285_14 h4 h5 (fun v6 h6 => ?_))
    refine pt_d (pt_iconst gx285_15 (fun v7 h7 => ?_))
    refine pt_d (pt_icmp_ne gx285_16 h6 h7 (fun e8 => ?_) (fun e8 => ?_))
    · have H := H.1 e8
      refine pt_d (pt_iinc (c := 1) gx285_31 rfl z3 (fun v9 h9 => ?_))
      show Pt _ _ _ _ [some (.ref 72), some (.int x1), some (.int x2), some (.int v9)] [] _ _
      refine pt_d (pt_1 (fun n d => r_goto gx285_34) ?_)
      exact H v9 h9
    · have H := H.2 e8
      refine pt_d (pt_1 (fun n d => r_aloadn gx285_19 rfl) ?_)
      refine pt_d (pt_getR gx285_20 S tr_72_80 ?_)
      refine pt_d (pt_1 (fun n d => r_iloadn gx285_23 rfl) ?_)
      refine pt_d (pt_iald (N' := 10) gx285_24 S tl_132 z3 (fun v11 p11 q11 h11 => ?_))
      have H := H p11 q11
      refine pt_d (pt_1 (fun n d => r_iloadn gx285_25 rfl) ?_)
      refine pt_d (pt_icmp_ne gx285_26 h11 z1 (fun e12 => ?_) (fun e12 => ?_))
      · have H := H.1 e12
        refine pt_d (pt_iinc (c := 1) gx285_31 rfl z3 (fun v13 h13 => ?_))
        show Pt _ _ _ _ [some (.ref 72), some (.int x1), some (.int x2), some (.int v13)] [] _ _
        refine pt_d (pt_1 (fun n d => r_goto gx285_34) ?_)
        exact H v13 h13
      · have H := H.2 e12
        refine pt_d (pt_iconst gx285_29 (fun v14 h14 => ?_))
        exact pt_d (pt_iret gx285_30 ⟨_, rfl, by rw [h14]; exact H⟩)
def hasT (V : vS) (b y : Int) : Prop := ∃ c o, ((0 ≤ c ∧ c < V 72 19) ∧ 0 ≤ o ∧ o < V 72 19) ∧ (inY V y c ∧ V 88 c = b) ∧ inY V y o ∧ mTr V c o
theorem l_284 {X : aX} {h : aH} {b y : Int} (S : wS h) (hN : 0 ≤ vw h 72 19 ∧ vw h 72 19 ≤ 300) (hF : ∀ c, 0 ≤ c → c < 300 → 0 ≤ vw h 88 c ∧ vw h 88 c < 150) : ∀ n : Nat, (∀ (x1 x2 x3 : Int32) (u4 : Option Value) (c : Int), x1.toInt = b → x2.toInt = y → x3.toInt = c → 0 ≤ c → (∀ c' o, 0 ≤ c' → c' < c → 0 ≤ o → o < vw h 72 19 → ¬ ((inY (vw h) y c' ∧ vw h 88 c' = b) ∧ inY (vw h) y o ∧ mTr (vw h) c' o)) → Pt n X zM284 2 [some (.ref 72), some (.int x1), some (.int x2), some (.int x3), u4] [] h (qI (fun r h' => h' = h ∧ r = bI (hasT (vw h) b y)))) ∧
    (∀ (x1 x2 x3 x4 : Int32) (c o : Int), x1.toInt = b → x2.toInt = y → x3.toInt = c → x4.toInt = o → (0 ≤ c ∧ c < vw h 72 19) → 0 ≤ o → (inY (vw h) y c ∧ vw h 88 c = b) → (∀ c' o, 0 ≤ c' → c' < c → 0 ≤ o → o < vw h 72 19 → ¬ ((inY (vw h) y c' ∧ vw h 88 c' = b) ∧ inY (vw h) y o ∧ mTr (vw h) c' o)) → (∀ o', 0 ≤ o' → o' < o → ¬ (inY (vw h) y o' ∧ mTr (vw h) c o')) → Pt n X zM284 44 [some (.ref 72), some (.int x1), some (.int x2), some (.int x3), some (.int x4)] [] h (qI (fun r h' => h' = h ∧ r = bI (hasT (vw h) b y)))) := by
  intro n
  induction n with
  | zero => exact ⟨by intros; exact pt_z, by intros; exact pt_z⟩
  | succ n ih =>
    have step : ∀ (x1 x2 : Int32) (c : Int), x1.toInt = b → x2.toInt = y → 0 ≤ c → c < vw h 72 19 → (∀ c' o, 0 ≤ c' → c' < c → 0 ≤ o → o < vw h 72 19 → ¬ ((inY (vw h) y c' ∧ vw h 88 c' = b) ∧ inY (vw h) y o ∧ mTr (vw h) c' o)) → (∀ o, 0 ≤ o → o < vw h 72 19 → ¬ ((inY (vw h) y c ∧ vw h 88 c = b) ∧ inY (vw h) y o ∧ mTr (vw h) c o)) → ∀ (w : Int32) (u : Option Value), w.toInt = w32 (c + 1) → Pt n X zM284 2 [some (.ref 72), some (.int x1), some (.int x2), some (.int w), u] [] h (qI (fun r h' => h' = h ∧ r = bI (hasT (vw h) b y))) := by
      intro x1 x2 c h1 h2 c0 cN no z w u g
      replace g := w_1 g (by omega) (by omega)
      refine ih.1 x1 x2 w u (c + 1) h1 h2 g (by omega) (fun c' o a d e f => ?_)
      by_cases q : c' = c
      · rw [q]
        exact z o e f
      · exact no c' o a (by omega) e f
    refine ⟨fun x1 x2 x3 u4 c h1 h2 h3 c0 no => ?_, fun x1 x2 x3 x4 c o h1 h2 h3 h4 hc o0 yc no nj => ?_⟩
    · refine d284_2 S h1 h2 h3 ⟨fun e => ⟨rfl, (bI_f (fun ⟨c', o, m, z⟩ => no c' o m.1.1 (by omega) m.2.1 m.2.2 z)).symm⟩, fun e _ _ => ⟨fun z w u g => step x1 x2 c h1 h2 c0 e no (fun o _ _ q => q.1.1.1 z) w u g, fun z => ⟨fun z2 w u g => step x1 x2 c h1 h2 c0 e no (fun o _ _ q => z2 q.1.1.2) w u g, fun z2 => ⟨fun z3 w g => ?_, fun z3 w u g => step x1 x2 c h1 h2 c0 e no (fun o _ _ q => z3 q.1.2) w u g⟩⟩⟩⟩
      exact ih.2 x1 x2 x3 w c 0 h1 h2 h3 g ⟨c0, e⟩ (Int.le_refl _) ⟨⟨z, z2⟩, z3⟩ no (fun o' a d => by omega)
    · have next : o < vw h 72 19 → ¬ (inY (vw h) y o ∧ mTr (vw h) c o) → ∀ w : Int32, w.toInt = w32 (o + 1) → Pt n X zM284 44 [some (.ref 72), some (.int x1), some (.int x2), some (.int x3), some (.int w)] [] h (qI (fun r h' => h' = h ∧ r = bI (hasT (vw h) b y))) := by
        intro e z w g
        replace g := w_1 g (by omega) (by omega)
        refine ih.2 x1 x2 x3 w c (o + 1) h1 h2 h3 g hc (by omega) yc no (fun o' a d => ?_)
        by_cases q : o' = o
        · rw [q]
          exact z
        · exact nj o' a (by omega)
      exact d284_44 S h1 h2 h3 h4 ⟨fun e w u g => step x1 x2 c h1 h2 hc.1 hc.2 no (fun o' a _ q => nj o' a (by omega) q.2) w u g, fun e _ _ => ⟨fun z w g => next e (fun q => q.1.1 z) w g, fun z => ⟨fun z2 w g => next e (fun q => z2 q.1.2) w g, fun z2 => ⟨hF, fun z3 w g => next e (fun q => z3 q.2) w g, fun z3 => ⟨rfl, (bI_t ⟨c, o, ⟨hc, o0, e⟩, yc, ⟨z, z2⟩, z3⟩).symm⟩⟩⟩⟩⟩
theorem c_284 {n : Nat} {X : aX} {h : aH} {x1 x2 : Int32} {a1 a2 : Int} (S : wS h) (z1 : x1.toInt = a1) (z2 : x2.toInt = a2) (hp : (0 ≤ vw h 72 19 ∧ vw h 72 19 ≤ 300) ∧ ∀ c, 0 ≤ c → c < 300 → 0 ≤ vw h 88 c ∧ vw h 88 c < 150) : Pt n X zM284 0 [some (.ref 72), some (.int x1), some (.int x2), none, none] [] h (qI (fun r h' => h' = h ∧ r = bI (hasT (vw h) a1 a2))) :=
  pt_d (d284_0 S z1 z2 (fun w u g => (l_284 S hp.1 hp.2 n).1 x1 x2 w u 0 z1 z2 g (Int.le_refl _) (fun c o a d => by omega)))
def isAw (V : vS) (b s : Int) : Prop := ∃ k, (0 ≤ k ∧ k < V 72 79) ∧ bAnd (bShr s k) 1 = 1 ∧ V 132 k = b
theorem l_285 {X : aX} {h : aH} {b s : Int} (S : wS h) (hN : 0 ≤ vw h 72 79 ∧ vw h 72 79 ≤ 10) : ∀ (n : Nat) (x1 x2 x3 : Int32) (k : Int), x1.toInt = b → x2.toInt = s → x3.toInt = k → 0 ≤ k → (∀ j, 0 ≤ j → j < k → ¬ (bAnd (bShr s j) 1 = 1 ∧ vw h 132 j = b)) → Pt n X zM285 2 [some (.ref 72), some (.int x1), some (.int x2), some (.int x3)] [] h (qI (fun r h' => h' = h ∧ r = bI (isAw (vw h) b s))) := by
  intro n
  induction n with
  | zero => intros; exact pt_z
  | succ n ih =>
    intro x1 x2 x3 k h1 h2 h3 k0 no
    have next : k < vw h 72 79 → ¬ (bAnd (bShr s k) 1 = 1 ∧ vw h 132 k = b) → ∀ w : Int32, w.toInt = w32 (k + 1) → Pt n X zM285 2 [some (.ref 72), some (.int x1), some (.int x2), some (.int w)] [] h (qI (fun r h' => h' = h ∧ r = bI (isAw (vw h) b s))) := by
      intro e z w g
      replace g := w_1 g (by omega) (by omega)
      refine ih x1 x2 w (k + 1) h1 h2 g (by omega) (fun j a d => ?_)
      by_cases q : j = k
      · rw [q]
        exact z
      · exact no j a (by omega)
    exact d285_2 S h1 h2 h3 ⟨fun e => ⟨rfl, (bI_f (fun ⟨j, m, z⟩ => no j m.1 (by omega) z)).symm⟩, fun e => ⟨fun z w g => next e (fun q => z q.1) w g, fun z _ _ => ⟨fun z2 w g => next e (fun q => z2 q.2) w g, fun z2 => ⟨rfl, (bI_t ⟨k, ⟨k0, e⟩, z, z2⟩).symm⟩⟩⟩⟩
theorem c_285 {n : Nat} {X : aX} {h : aH} {x1 x2 : Int32} {a1 a2 : Int} (S : wS h) (z1 : x1.toInt = a1) (z2 : x2.toInt = a2) (hp : 0 ≤ vw h 72 79 ∧ vw h 72 79 ≤ 10) : Pt n X zM285 0 [some (.ref 72), some (.int x1), some (.int x2), none] [] h (qI (fun r h' => h' = h ∧ r = bI (isAw (vw h) a1 a2))) :=
  pt_d (d285_0 S z1 z2 (fun w g => l_285 S hp n x1 x2 w 0 z1 z2 g (Int.le_refl _) (fun j a d => by omega)))

theorem d286_0 {n : Nat} {X : aX} {h : aH} {P : Int → aH → Prop} {x1 x2 : Int32} {a1 a2 : Int} (S : wS h) (z1 : x1.toInt = a1) (z2 : x2.toInt = a2) (H : (∀ (w3 : Int32) (u4_ : Option Value), w3.toInt = 0 → Pt n X zM286 2 [some (.ref 72), some (.int x1), some (.int x2), some (.int w3), u4_] [] h (qI P))) : Pt (n + 1) X zM286 0 [some (.ref 72), some (.int x1), some (.int x2), none, none] [] h (qI P) := by
  refine pt_iconst gx286_0 (fun v1 h1 => ?_)
  refine pt_d (pt_1 (fun n d => r_istoren (L' := [some (.ref 72), some (.int x1), some (.int x2), some (.int v1), none]) gx286_1 rfl rfl) ?_)
  exact H v1 _ h1
theorem d286_2 {n : Nat} {X : aX} {h : aH} {P : Int → aH → Prop} {x1 x2 x3 : Int32} {a1 a2 a3 : Int} {u4 : Option Value} (S : wS h) (z1 : x1.toInt = a1) (z2 : x2.toInt = a2) (z3 : x3.toInt = a3) (H : ((vw h 72 19 ≤ a3 → P 1 h) ∧ (a3 < vw h 72 19 → (0 ≤ a3 → a3 < 300 → ((vw h 103 a3 = 0 → (∀ (w3 : Int32) (u4_ : Option Value), w3.toInt = w32 (a3 + 1) → Pt n X zM286 2 [some (.ref 72), some (.int x1), some (.int x2), some (.int w3), u4_] [] h (qI P))) ∧ (vw h 103 a3 ≠ 0 → ((iDiv ((vw h) 90 a3) 365 ≠ a2 → (∀ (w3 : Int32) (u4_ : Option Value), w3.toInt = w32 (a3 + 1) → Pt n X zM286 2 [some (.ref 72), some (.int x1), some (.int x2), some (.int w3), u4_] [] h (qI P))) ∧ (iDiv ((vw h) 90 a3) 365 = a2 → ((0 ≤ vw h 72 79 ∧ vw h 72 79 ≤ 10) ∧ ((¬ (isAw (vw h) (vw h 88 a3) a1) → (∀ (w4 : Int32), w4.toInt = w32 (a3 + 1) → Pt n X zM286 50 [some (.ref 72), some (.int x1), some (.int x2), some (.int x3), some (.int w4)] [] h (qI P))) ∧ ((isAw (vw h) (vw h 88 a3) a1) → (∀ (w3 : Int32) (u4_ : Option Value), w3.toInt = w32 (a3 + 1) → Pt n X zM286 2 [some (.ref 72), some (.int x1), some (.int x2), some (.int w3), u4_] [] h (qI P))))))))))))) : Pt (n + 1) X zM286 2 [some (.ref 72), some (.int x1), some (.int x2), some (.int x3), u4] [] h (qI P) := by
  refine pt_1 (fun n d => r_iloadn gx286_2 rfl) ?_
  refine pt_d (pt_1 (fun n d => r_aloadn gx286_3 rfl) ?_)
  refine pt_d (pt_getI (B := 19) gx286_4 S (fun v1 h1 => ?_))
  refine pt_d (pt_icmp_ge gx286_7 z3 h1 (fun e2 => ?_) (fun e2 => ?_))
  · have H := H.1 e2
    refine pt_d (pt_iconst gx286_118 (fun v3 h3 => ?_))
    exact pt_d (pt_iret gx286_119 ⟨_, rfl, by rw [h3]; exact H⟩)
  · have H := H.2 e2
    refine pt_d (pt_1 (fun n d => r_aloadn gx286_10 rfl) ?_)
    refine pt_d (pt_getR gx286_11 S tr_72_40 ?_)
    refine pt_d (pt_1 (fun n d => r_iloadn gx286_14 rfl) ?_)
    refine pt_d (pt_zald (N' := 300) gx286_15 S tl_103 z3 (fun v5 p5 q5 h5 => ?_))
    have H := H p5 q5
    refine pt_d (pt_if_eq gx286_16 h5 (fun e6 => ?_) (fun e6 => ?_))
    · have H := H.1 e6
      refine pt_d (pt_iinc (c := 1) gx286_112 rfl z3 (fun v7 h7 => ?_))
      show Pt _ _ _ _ [some (.ref 72), some (.int x1), some (.int x2), some (.int v7), u4] [] _ _
      refine pt_d (pt_1 (fun n d => r_goto gx286_115) ?_)
      exact H v7 _ h7
    · have H := H.2 e6
      refine pt_d (pt_1 (fun n d => r_aloadn gx286_19 rfl) ?_)
      refine pt_d (pt_1 (fun n d => r_iloadn gx286_20 rfl) ?_)
      refine pt_d (pt_virt (as := [.int x3]) (r := []) gx286_21 rfl (show zmt[229]? = some zM229 from rfl) rfl rfl rfl rfl (c_229 S z3) (kqP (fun v8 h8 => ?_)))
      show Pt _ _ _ 24 _ [.int v8] _ _
      refine pt_d (pt_1 (fun n d => r_iloadn gx286_24 rfl) ?_)
      refine pt_d (pt_icmp_ne gx286_25 h8 z2 (fun e9 => ?_) (fun e9 => ?_))
      · have H := H.1 e9
        refine pt_d (pt_iinc (c := 1) gx286_112 rfl z3 (fun v10 h10 => ?_))
        show Pt _ _ _ _ [some (.ref 72), some (.int x1), some (.int x2), some (.int v10), u4] [] _ _
        refine pt_d (pt_1 (fun n d => r_goto gx286_115) ?_)
        exact H v10 _ h10
      · have H := H.2 e9
        refine pt_d (pt_1 (fun n d => r_aloadn gx286_28 rfl) ?_)
        refine pt_d (pt_1 (fun n d => r_aloadn gx286_29 rfl) ?_)
        refine pt_d (pt_getR gx286_30 S tr_72_21 ?_)
        refine pt_d (pt_1 (fun n d => r_iloadn gx286_33 rfl) ?_)
        refine pt_d (pt_iald (N' := 300) gx286_34 S tl_88 z3 (fun v12 p12 q12 h12 => ?_))
        refine pt_d (pt_1 (fun n d => r_iloadn gx286_35 rfl) ?_)
        obtain ⟨pr13, H⟩ := H
        refine pt_d (pt_virt (as := [.int v12, .int x1]) (r := []) gx286_36 rfl (show zmt[285]? = some zM285 from rfl) rfl rfl rfl rfl (c_285 S h12 z1 pr13) (kqP (fun v13 h13 => ?_)))
        show Pt _ _ _ 39 _ [.int v13] _ _
        refine pt_d (pt_ifB_eq gx286_39 h13 (fun e14 => ?_) (fun e14 => ?_))
        · have H := H.1 e14
          refine pt_d (pt_1 (fun n d => r_iloadn gx286_45 rfl) ?_)
          refine pt_d (pt_iconst gx286_46 (fun v15 h15 => ?_))
          refine pt_d (pt_iadd gx286_47 z3 h15 (fun v16 h16 => ?_))
          refine pt_d (pt_1 (fun n d => r_istore (L' := [some (.ref 72), some (.int x1), some (.int x2), some (.int x3), some (.int v16)]) gx286_48 rfl rfl) ?_)
          exact H v16 h16
        · have H := H.2 e14
          refine pt_d (pt_1 (fun n d => r_goto gx286_42) ?_)
          refine pt_d (pt_iinc (c := 1) gx286_112 rfl z3 (fun v17 h17 => ?_))
          show Pt _ _ _ _ [some (.ref 72), some (.int x1), some (.int x2), some (.int v17), u4] [] _ _
          refine pt_d (pt_1 (fun n d => r_goto gx286_115) ?_)
          exact H v17 _ h17
theorem d286_50 {n : Nat} {X : aX} {h : aH} {P : Int → aH → Prop} {x1 x2 x3 x4 : Int32} {a1 a2 a3 a4 : Int} (S : wS h) (z1 : x1.toInt = a1) (z2 : x2.toInt = a2) (z3 : x3.toInt = a3) (z4 : x4.toInt = a4) (H : ((vw h 72 19 ≤ a4 → (∀ (w3 : Int32) (u4_ : Option Value), w3.toInt = w32 (a3 + 1) → Pt n X zM286 2 [some (.ref 72), some (.int x1), some (.int x2), some (.int w3), u4_] [] h (qI P))) ∧ (a4 < vw h 72 19 → (0 ≤ a4 → a4 < 300 → ((vw h 103 a4 = 0 → (∀ (w4 : Int32), w4.toInt = w32 (a4 + 1) → Pt n X zM286 50 [some (.ref 72), some (.int x1), some (.int x2), some (.int x3), some (.int w4)] [] h (qI P))) ∧ (vw h 103 a4 ≠ 0 → ((iDiv ((vw h) 90 a4) 365 ≠ a2 → (∀ (w4 : Int32), w4.toInt = w32 (a4 + 1) → Pt n X zM286 50 [some (.ref 72), some (.int x1), some (.int x2), some (.int x3), some (.int w4)] [] h (qI P))) ∧ (iDiv ((vw h) 90 a4) 365 = a2 → ((0 ≤ vw h 72 79 ∧ vw h 72 79 ≤ 10) ∧ (((isAw (vw h) (vw h 88 a4) a1) → (∀ (w4 : Int32), w4.toInt = w32 (a4 + 1) → Pt n X zM286 50 [some (.ref 72), some (.int x1), some (.int x2), some (.int x3), some (.int w4)] [] h (qI P))) ∧ (¬ (isAw (vw h) (vw h 88 a4) a1) → ((∀ c, 0 ≤ c → c < 300 → 0 ≤ vw h 88 c ∧ vw h 88 c < 150) ∧ ((¬ (mTr (vw h) a3 a4) → (∀ (w4 : Int32), w4.toInt = w32 (a4 + 1) → Pt n X zM286 50 [some (.ref 72), some (.int x1), some (.int x2), some (.int x3), some (.int w4)] [] h (qI P))) ∧ ((mTr (vw h) a3 a4) → P 0 h)))))))))))))) : Pt (n + 1) X zM286 50 [some (.ref 72), some (.int x1), some (.int x2), some (.int x3), some (.int x4)] [] h (qI P) := by
  refine pt_1 (fun n d => r_iload gx286_50 rfl) ?_
  refine pt_d (pt_1 (fun n d => r_aloadn gx286_52 rfl) ?_)
  refine pt_d (pt_getI (B := 19) gx286_53 S (fun v1 h1 => ?_))
  refine pt_d (pt_icmp_ge gx286_56 z4 h1 (fun e2 => ?_) (fun e2 => ?_))
  · have H := H.1 e2
    refine pt_d (pt_iinc (c := 1) gx286_112 rfl z3 (fun v3 h3 => ?_))
    show Pt _ _ _ _ [some (.ref 72), some (.int x1), some (.int x2), some (.int v3), some (.int x4)] [] _ _
    refine pt_d (pt_1 (fun n d => r_goto gx286_115) ?_)
    exact H v3 _ h3
  · have H := H.2 e2
    refine pt_d (pt_1 (fun n d => r_aloadn gx286_59 rfl) ?_)
    refine pt_d (pt_getR gx286_60 S tr_72_40 ?_)
    refine pt_d (pt_1 (fun n d => r_iload gx286_63 rfl) ?_)
    refine pt_d (pt_zald (N' := 300) gx286_65 S tl_103 z4 (fun v5 p5 q5 h5 => ?_))
    have H := H p5 q5
    refine pt_d (pt_if_eq gx286_66 h5 (fun e6 => ?_) (fun e6 => ?_))
    · have H := H.1 e6
      refine pt_d (pt_iinc (c := 1) gx286_106 rfl z4 (fun v7 h7 => ?_))
      show Pt _ _ _ _ [some (.ref 72), some (.int x1), some (.int x2), some (.int x3), some (.int v7)] [] _ _
      refine pt_d (pt_1 (fun n d => r_goto gx286_109) ?_)
      exact H v7 h7
    · have H := H.2 e6
      refine pt_d (pt_1 (fun n d => r_aloadn gx286_69 rfl) ?_)
      refine pt_d (pt_1 (fun n d => r_iload gx286_70 rfl) ?_)
      refine pt_d (pt_virt (as := [.int x4]) (r := []) gx286_72 rfl (show zmt[229]? = some zM229 from rfl) rfl rfl rfl rfl (c_229 S z4) (kqP (fun v8 h8 => ?_)))
      show Pt _ _ _ 75 _ [.int v8] _ _
      refine pt_d (pt_1 (fun n d => r_iloadn gx286_75 rfl) ?_)
      refine pt_d (pt_icmp_ne gx286_76 h8 z2 (fun e9 => ?_) (fun e9 => ?_))
      · have H := H.1 e9
        refine pt_d (pt_iinc (c := 1) gx286_106 rfl z4 (fun v10 h10 => ?_))
        show Pt _ _ _ _ [some (.ref 72), some (.int x1), some (.int x2), some (.int x3), some (.int v10)] [] _ _
        refine pt_d (pt_1 (fun n d => r_goto gx286_109) ?_)
        exact H v10 h10
      · have H := H.2 e9
        refine pt_d (pt_1 (fun n d => r_aloadn gx286_79 rfl) ?_)
        refine pt_d (pt_1 (fun n d => r_aloadn gx286_80 rfl) ?_)
        refine pt_d (pt_getR gx286_81 S tr_72_21 ?_)
        refine pt_d (pt_1 (fun n d => r_iload gx286_84 rfl) ?_)
        refine pt_d (pt_iald (N' := 300) gx286_86 S tl_88 z4 (fun v12 p12 q12 h12 => ?_))
        refine pt_d (pt_1 (fun n d => r_iloadn gx286_87 rfl) ?_)
        obtain ⟨pr13, H⟩ := H
        refine pt_d (pt_virt (as := [.int v12, .int x1]) (r := []) gx286_88 rfl (show zmt[285]? = some zM285 from rfl) rfl rfl rfl rfl (c_285 S h12 z1 pr13) (kqP (fun v13 h13 => ?_)))
        show Pt _ _ _ 91 _ [.int v13] _ _
        refine pt_d (pt_ifB_ne gx286_91 h13 (fun e14 => ?_) (fun e14 => ?_))
        · have H := H.1 e14
          refine pt_d (pt_iinc (c := 1) gx286_106 rfl z4 (fun v15 h15 => ?_))
          show Pt _ _ _ _ [some (.ref 72), some (.int x1), some (.int x2), some (.int x3), some (.int v15)] [] _ _
          refine pt_d (pt_1 (fun n d => r_goto gx286_109) ?_)
          exact H v15 h15
        · have H := H.2 e14
          refine pt_d (pt_1 (fun n d => r_aloadn gx286_94 rfl) ?_)
          refine pt_d (pt_1 (fun n d => r_iloadn gx286_95 rfl) ?_)
          refine pt_d (pt_1 (fun n d => r_iload gx286_96 rfl) ?_)
          obtain ⟨pr16, H⟩ := H
          refine pt_d (pt_virt (as := [.int x3, .int x4]) (r := []) gx286_98 rfl (show zmt[283]? = some zM283 from rfl) rfl rfl rfl rfl (c_283 S z3 z4 pr16) (kqP (fun v16 h16 => ?_)))
          show Pt _ _ _ 101 _ [.int v16] _ _
          refine pt_d (pt_ifB_eq gx286_101 h16 (fun e17 => ?_) (fun e17 => ?_))
          · have H := H.1 e17
            refine pt_d (pt_iinc (c := 1) gx286_106 rfl z4 (fun v18 h18 => ?_))
            show Pt _ _ _ _ [some (.ref 72), some (.int x1), some (.int x2), some (.int x3), some (.int v18)] [] _ _
            refine pt_d (pt_1 (fun n d => r_goto gx286_109) ?_)
            exact H v18 h18
          · have H := H.2 e17
            refine pt_d (pt_iconst gx286_104 (fun v19 h19 => ?_))
            exact pt_d (pt_iret gx286_105 ⟨_, rfl, by rw [h19]; exact H⟩)
theorem d287_0 {n : Nat} {X : aX} {h : aH} {P : Int → aH → Prop} {x0 : Int32} {a0 : Int} (S : wS h) (z0 : x0.toInt = a0) (H : (∀ (w1 : Int32), w1.toInt = 0 → Pt n X zM287 4 [some (.int x0), some (.int w1), some (.int x0)] [] h (qI P))) : Pt (n + 1) X zM287 0 [some (.int x0), none, none] [] h (qI P) := by
  refine pt_iconst gx287_0 (fun v1 h1 => ?_)
  refine pt_d (pt_1 (fun n d => r_istoren (L' := [some (.int x0), some (.int v1), none]) gx287_1 rfl rfl) ?_)
  refine pt_d (pt_1 (fun n d => r_iloadn gx287_2 rfl) ?_)
  refine pt_d (pt_1 (fun n d => r_istoren (L' := [some (.int x0), some (.int v1), some (.int x0)]) gx287_3 rfl rfl) ?_)
  exact H v1 h1
theorem d287_4 {n : Nat} {X : aX} {h : aH} {P : Int → aH → Prop} {x0 x1 x2 : Int32} {a0 a1 a2 : Int} (S : wS h) (z0 : x0.toInt = a0) (z1 : x1.toInt = a1) (z2 : x2.toInt = a2) (H : ((a2 = 0 → P a1 h) ∧ (a2 ≠ 0 → (∀ (w1 : Int32) (w2 : Int32), w1.toInt = w32 (a1 + 1) → w2.toInt = bAnd a2 (w32 (a2 - 1)) → Pt n X zM287 4 [some (.int x0), some (.int w1), some (.int w2)] [] h (qI P))))) : Pt (n + 1) X zM287 4 [some (.int x0), some (.int x1), some (.int x2)] [] h (qI P) := by
  refine pt_1 (fun n d => r_iloadn gx287_4 rfl) ?_
  refine pt_d (pt_if_eq gx287_5 z2 (fun e1 => ?_) (fun e1 => ?_))
  · have H := H.1 e1
    refine pt_d (pt_1 (fun n d => r_iloadn gx287_20 rfl) ?_)
    exact pt_d (pt_iret gx287_21 ⟨_, rfl, by rw [z1]; exact H⟩)
  · have H := H.2 e1
    refine pt_d (pt_iinc (c := 1) gx287_8 rfl z1 (fun v2 h2 => ?_))
    show Pt _ _ _ _ [some (.int x0), some (.int v2), some (.int x2)] [] _ _
    refine pt_d (pt_1 (fun n d => r_iloadn gx287_11 rfl) ?_)
    refine pt_d (pt_1 (fun n d => r_iloadn gx287_12 rfl) ?_)
    refine pt_d (pt_iconst gx287_13 (fun v3 h3 => ?_))
    refine pt_d (pt_isub gx287_14 z2 h3 (fun v4 h4 => ?_))
    refine pt_d (pt_iand gx287_15 z2 h4 (fun v5 h5 => ?_))
    refine pt_d (pt_1 (fun n d => r_istoren (L' := [some (.int x0), some (.int v2), some (.int v5)]) gx287_16 rfl rfl) ?_)
    refine pt_d (pt_1 (fun n d => r_goto gx287_17) ?_)
    exact H v2 v5 h2 h5
def cur (V : vS) (s y : Int) : Prop := ∀ c o, 0 ≤ c → c < o → o < V 72 19 → (inY V y c ∧ ¬ isAw V (V 88 c) s) → (inY V y o ∧ ¬ isAw V (V 88 o) s) → ¬ mTr V c o
theorem l_286 {X : aX} {h : aH} {s y : Int} (S : wS h) (hN : 0 ≤ vw h 72 19 ∧ vw h 72 19 ≤ 300) (hF : ∀ c, 0 ≤ c → c < 300 → 0 ≤ vw h 88 c ∧ vw h 88 c < 150) (hM : 0 ≤ vw h 72 79 ∧ vw h 72 79 ≤ 10) : ∀ n : Nat, (∀ (x1 x2 x3 : Int32) (u4 : Option Value) (c : Int), x1.toInt = s → x2.toInt = y → x3.toInt = c → 0 ≤ c → (∀ c' o, 0 ≤ c' → c' < c → c' < o → o < vw h 72 19 → (inY (vw h) y c' ∧ ¬ isAw (vw h) (vw h 88 c') s) → (inY (vw h) y o ∧ ¬ isAw (vw h) (vw h 88 o) s) → ¬ mTr (vw h) c' o) → Pt n X zM286 2 [some (.ref 72), some (.int x1), some (.int x2), some (.int x3), u4] [] h (qI (fun r h' => h' = h ∧ r = bI (cur (vw h) s y)))) ∧
    (∀ (x1 x2 x3 x4 : Int32) (c o : Int), x1.toInt = s → x2.toInt = y → x3.toInt = c → x4.toInt = o → (0 ≤ c ∧ c < vw h 72 19) → c < o → (inY (vw h) y c ∧ ¬ isAw (vw h) (vw h 88 c) s) → (∀ c' o, 0 ≤ c' → c' < c → c' < o → o < vw h 72 19 → (inY (vw h) y c' ∧ ¬ isAw (vw h) (vw h 88 c') s) → (inY (vw h) y o ∧ ¬ isAw (vw h) (vw h 88 o) s) → ¬ mTr (vw h) c' o) → (∀ o', c < o' → o' < o → (inY (vw h) y o' ∧ ¬ isAw (vw h) (vw h 88 o') s) → ¬ mTr (vw h) c o') → Pt n X zM286 50 [some (.ref 72), some (.int x1), some (.int x2), some (.int x3), some (.int x4)] [] h (qI (fun r h' => h' = h ∧ r = bI (cur (vw h) s y)))) := by
  intro n
  induction n with
  | zero => exact ⟨by intros; exact pt_z, by intros; exact pt_z⟩
  | succ n ih =>
    have step : ∀ (x1 x2 : Int32) (c : Int), x1.toInt = s → x2.toInt = y → 0 ≤ c → c < vw h 72 19 → (∀ c' o, 0 ≤ c' → c' < c → c' < o → o < vw h 72 19 → (inY (vw h) y c' ∧ ¬ isAw (vw h) (vw h 88 c') s) → (inY (vw h) y o ∧ ¬ isAw (vw h) (vw h 88 o) s) → ¬ mTr (vw h) c' o) → (∀ o, c < o → o < vw h 72 19 → (inY (vw h) y c ∧ ¬ isAw (vw h) (vw h 88 c) s) → (inY (vw h) y o ∧ ¬ isAw (vw h) (vw h 88 o) s) → ¬ mTr (vw h) c o) → ∀ (w : Int32) (u : Option Value), w.toInt = w32 (c + 1) → Pt n X zM286 2 [some (.ref 72), some (.int x1), some (.int x2), some (.int w), u] [] h (qI (fun r h' => h' = h ∧ r = bI (cur (vw h) s y))) := by
      intro x1 x2 c h1 h2 c0 cN al z w u g
      replace g := w_1 g (by omega) (by omega)
      refine ih.1 x1 x2 w u (c + 1) h1 h2 g (by omega) (fun c' o a d e f => ?_)
      by_cases q : c' = c
      · rw [q] at e ⊢
        exact z o e f
      · exact al c' o a (by omega) e f
    refine ⟨fun x1 x2 x3 u4 c h1 h2 h3 c0 al => ?_, fun x1 x2 x3 x4 c o h1 h2 h3 h4 hc co yc al nj => ?_⟩
    · refine d286_2 S h1 h2 h3 ⟨fun e => ⟨rfl, (bI_t (fun c' o a d f => al c' o a (by omega) d f)).symm⟩, fun e _ _ => ⟨fun z w u g => step x1 x2 c h1 h2 c0 e al (fun o _ _ q => absurd z q.1.1) w u g, fun z => ⟨fun z2 w u g => step x1 x2 c h1 h2 c0 e al (fun o _ _ q => absurd q.1.2 z2) w u g, fun z2 => ⟨hM, fun z3 w g => ?_, fun z3 w u g => step x1 x2 c h1 h2 c0 e al (fun o _ _ q => absurd z3 q.2) w u g⟩⟩⟩⟩
      replace g := w_1 g (by omega) (by omega)
      exact ih.2 x1 x2 x3 w c (c + 1) h1 h2 h3 g ⟨c0, e⟩ (by omega) ⟨⟨z, z2⟩, z3⟩ al (fun o' a d => by omega)
    · have next : o < vw h 72 19 → ((inY (vw h) y o ∧ ¬ isAw (vw h) (vw h 88 o) s) → ¬ mTr (vw h) c o) → ∀ w : Int32, w.toInt = w32 (o + 1) → Pt n X zM286 50 [some (.ref 72), some (.int x1), some (.int x2), some (.int x3), some (.int w)] [] h (qI (fun r h' => h' = h ∧ r = bI (cur (vw h) s y))) := by
        intro e z w g
        replace g := w_1 g (by omega) (by omega)
        refine ih.2 x1 x2 x3 w c (o + 1) h1 h2 h3 g hc (by omega) yc al (fun o' a d => ?_)
        by_cases q : o' = o
        · rw [q]
          exact z
        · exact nj o' a (by omega)
      exact d286_50 S h1 h2 h3 h4 ⟨fun e w u g => step x1 x2 c h1 h2 hc.1 hc.2 al (fun o' a d _ f => nj o' a (by omega) f) w u g, fun e _ _ => ⟨fun z w g => next e (fun q => absurd z q.1.1) w g, fun z => ⟨fun z2 w g => next e (fun q => absurd q.1.2 z2) w g, fun z2 => ⟨hM, fun z3 w g => next e (fun q => absurd z3 q.2) w g, fun z3 => ⟨hF, fun z4 w g => next e (fun _ => z4) w g, fun z4 => ⟨rfl, (bI_f (fun al2 => al2 c o hc.1 co e yc ⟨⟨z, z2⟩, z3⟩ z4)).symm⟩⟩⟩⟩⟩⟩
theorem c_286 {n : Nat} {X : aX} {h : aH} {x1 x2 : Int32} {a1 a2 : Int} (S : wS h) (z1 : x1.toInt = a1) (z2 : x2.toInt = a2) (hp : ((0 ≤ vw h 72 19 ∧ vw h 72 19 ≤ 300) ∧ ∀ c, 0 ≤ c → c < 300 → 0 ≤ vw h 88 c ∧ vw h 88 c < 150) ∧ 0 ≤ vw h 72 79 ∧ vw h 72 79 ≤ 10) : Pt n X zM286 0 [some (.ref 72), some (.int x1), some (.int x2), none, none] [] h (qI (fun r h' => h' = h ∧ r = bI (cur (vw h) a1 a2))) :=
  pt_d (d286_0 S z1 z2 (fun w u g => (l_286 S hp.1.1 hp.1.2 hp.2 n).1 x1 x2 w u 0 z1 z2 g (Int.le_refl _) (fun c o a d => by omega)))
theorem bit_dn : ∀ s : Fin 1024, s.val ≠ 0 → (0 ≤ bAnd (s.val : Int) (w32 ((s.val : Int) - 1)) ∧ bAnd (s.val : Int) (w32 ((s.val : Int) - 1)) < 1024) ∧ bcn (tb (s.val : Int)) 32 = bcn (tb (bAnd (s.val : Int) (w32 ((s.val : Int) - 1)))) 32 + 1 := by decide +kernel
theorem l_287 {X : aX} {h : aH} {B : Int} (S : wS h) : ∀ (n : Nat) (x0 x1 x2 : Int32), (0 ≤ x2.toInt ∧ x2.toInt < 1024) → 0 ≤ x1.toInt → x1.toInt + bcn (tb x2.toInt) 32 = B → B ≤ 32 → Pt n X zM287 4 [some (.int x0), some (.int x1), some (.int x2)] [] h (qI (fun r h' => h' = h ∧ r = B)) := by
  intro n
  induction n with
  | zero => intros; exact pt_z
  | succ n ih =>
    intro x0 x1 x2 r2 r1 e hB
    have bb := bcn_b (tb x2.toInt) 32
    refine d287_4 S rfl rfl rfl ⟨fun z => ⟨rfl, ?_⟩, fun z w1 w2 g1 g2 => ?_⟩
    · have b0 : bcn (tb 0) 32 = 0 := by decide +kernel
      rw [z, b0] at e
      omega
    · have d := bit_dn ⟨x2.toInt.toNat, by omega⟩ (show x2.toInt.toNat ≠ 0 by omega)
      rw [show (((⟨x2.toInt.toNat, by omega⟩ : Fin 1024).val : Nat) : Int) = x2.toInt by show ((x2.toInt.toNat : Nat) : Int) = x2.toInt; omega] at d
      have b2 := bcn_b (tb (bAnd x2.toInt (w32 (x2.toInt - 1)))) 32
      replace g1 := w_1 g1 (by omega) (by omega)
      refine ih x0 w1 w2 (by rw [g2]; exact d.1) (by omega) ?_ hB
      rw [g2, g1]
      omega
theorem c_287 {n : Nat} {X : aX} {h : aH} {x0 : Int32} {a0 : Int} (S : wS h) (z0 : x0.toInt = a0) (hp : 0 ≤ a0 ∧ a0 < 1024) : Pt n X zM287 0 [some (.int x0), none, none] [] h (qI (fun r h' => h' = h ∧ r = bcn (tb a0) 32)) := by
  have bb := bcn_b (tb a0) 32
  exact pt_d (d287_0 S z0 (fun w1 g1 => l_287 S n x0 w1 x0 (by omega) (by omega) (by rw [g1, z0, Int.zero_add]) bb.2))
end
section
-- ===== the least land =====
theorem d288_0 {n : Nat} {X : aX} {h : aH} {P : Int → aH → Prop} {x1 : Int32} {a1 : Int} (S : wS h) (z1 : x1.toInt = a1) (H : (((0 ≤ a1 ∧ a1 ≤ 9) → ((q239 (vw h)) ∧ ∀ (h_4 : aH), (wS h_4 ∧ R239 (vw h) (vw h 72 1) (vw h_4)) → (∀ (w2 : Int32) (w3 : Int32), w2.toInt = 0 → w3.toInt = 0 → Pt n X zM288 21 [some (.ref 72), some (.int x1), some (.int w2), some (.int w3), none, none, none, none] [] h_4 (qI P)))) ∧ (¬ (0 ≤ a1 ∧ a1 ≤ 9) → P (-1) h))) : Pt (n + 1) X zM288 0 [some (.ref 72), some (.int x1), none, none, none, none, none, none] [] h (qI P) := by
  refine pt_1 (fun n d => r_iloadn gx288_0 rfl) ?_
  refine pt_d (pt_stat (as := [.int x1]) (r := []) gx288_1 rfl (show zmt[198]? = some zM198 from rfl) rfl rfl rfl rfl (c_198 S z1) (kqP (fun v1 h1 => ?_)))
  show Pt _ _ _ 4 _ [.int v1] _ _
  refine pt_d (pt_ifB_ne gx288_4 h1 (fun e2 => ?_) (fun e2 => ?_))
  · have H := H.1 e2
    refine pt_d (pt_1 (fun n d => r_aloadn gx288_9 rfl) ?_)
    refine pt_d (pt_1 (fun n d => r_aloadn gx288_10 rfl) ?_)
    refine pt_d (pt_getI (B := 1) gx288_11 S (fun v3 h3 => ?_))
    obtain ⟨pr4, H⟩ := H
    refine pt_d (pt_virt (as := [.int v3]) (r := []) gx288_14 rfl (show zmt[239]? = some zM239 from rfl) rfl rfl rfl rfl (c_239 S h3 pr4) (kqN (fun h_4 P4 => ?_)))
    have S4 := P4.1
    have H := H h_4 P4
    show Pt _ _ _ 17 _ [] _ _
    refine pt_d (pt_iconst gx288_17 (fun v5 h5 => ?_))
    refine pt_d (pt_1 (fun n d => r_istoren (L' := [some (.ref 72), some (.int x1), some (.int v5), none, none, none, none, none]) gx288_18 rfl rfl) ?_)
    refine pt_d (pt_iconst gx288_19 (fun v6 h6 => ?_))
    refine pt_d (pt_1 (fun n d => r_istoren (L' := [some (.ref 72), some (.int x1), some (.int v5), some (.int v6), none, none, none, none]) gx288_20 rfl rfl) ?_)
    exact H v5 v6 h5 h6
  · have H := H.2 e2
    refine pt_d (pt_iconst gx288_7 (fun v7 h7 => ?_))
    exact pt_d (pt_iret gx288_8 ⟨_, rfl, by rw [h7]; exact H⟩)
theorem d288_21 {n : Nat} {X : aX} {h : aH} {P : Int → aH → Prop} {x1 x2 x3 : Int32} {a1 a2 a3 : Int} (S : wS h) (z1 : x1.toInt = a1) (z2 : x2.toInt = a2) (z3 : x3.toInt = a3) (H : ((vw h 72 2 ≤ a3 → ((a2 ≤ 10 → ∀ h_6 : aH, wS h_6 → vw h_6 = up (vw h) 72 79 0 → (∀ (w3 : Int32), w3.toInt = 0 → Pt n X zM288 76 [some (.ref 72), some (.int x1), some (.int x2), some (.int w3), none, none, none, none] [] h_6 (qI P))) ∧ (10 < a2 → P (-4) h))) ∧ (a3 < vw h 72 2 → ((¬ (mField (vw h) a3) → (∀ (w2 : Int32) (w3 : Int32), w2.toInt = w32 (a2 + 0) → w3.toInt = w32 (a3 + 1) → Pt n X zM288 21 [some (.ref 72), some (.int x1), some (.int w2), some (.int w3), none, none, none, none] [] h (qI P))) ∧ ((mField (vw h) a3) → (((0 ≤ vw h 72 19 ∧ vw h 72 19 ≤ 300) ∧ ∀ c, 0 ≤ c → c < 300 → 0 ≤ vw h 88 c ∧ vw h 88 c < 150) ∧ ((¬ (hasT (vw h) a3 a1) → (∀ (w2 : Int32) (w3 : Int32), w2.toInt = w32 (a2 + 0) → w3.toInt = w32 (a3 + 1) → Pt n X zM288 21 [some (.ref 72), some (.int x1), some (.int w2), some (.int w3), none, none, none, none] [] h (qI P))) ∧ ((hasT (vw h) a3 a1) → (∀ (w2 : Int32) (w3 : Int32), w2.toInt = w32 (a2 + 1) → w3.toInt = w32 (a3 + 1) → Pt n X zM288 21 [some (.ref 72), some (.int x1), some (.int w2), some (.int w3), none, none, none, none] [] h (qI P)))))))))) : Pt (n + 1) X zM288 21 [some (.ref 72), some (.int x1), some (.int x2), some (.int x3), none, none, none, none] [] h (qI P) := by
  refine pt_1 (fun n d => r_iloadn gx288_21 rfl) ?_
  refine pt_d (pt_1 (fun n d => r_aloadn gx288_22 rfl) ?_)
  refine pt_d (pt_getI (B := 2) gx288_23 S (fun v1 h1 => ?_))
  refine pt_d (pt_icmp_ge gx288_26 z3 h1 (fun e2 => ?_) (fun e2 => ?_))
  · have H := H.1 e2
    refine pt_d (pt_1 (fun n d => r_iloadn gx288_60 rfl) ?_)
    refine pt_d (pt_bipush gx288_61 (fun v3 h3 => ?_))
    refine pt_d (pt_icmp_le gx288_63 z2 h3 (fun e4 => ?_) (fun e4 => ?_))
    · have H := H.1 e4
      refine pt_d (pt_1 (fun n d => r_aloadn gx288_69 rfl) ?_)
      refine pt_d (pt_iconst gx288_70 (fun v5 h5 => ?_))
      refine pt_d (pt_putI (B := 79) gx288_71 S h5 (fun h_6 S6 e6 => ?_))
      refine pt_d (pt_iconst gx288_74 (fun v7 h7 => ?_))
      refine pt_d (pt_1 (fun n d => r_istoren (L' := [some (.ref 72), some (.int x1), some (.int x2), some (.int v7), none, none, none, none]) gx288_75 rfl rfl) ?_)
      have H := H h_6 S6 (by rw [e6])
      exact H v7 h7
    · have H := H.2 e4
      refine pt_d (pt_bipush gx288_66 (fun v8 h8 => ?_))
      exact pt_d (pt_iret gx288_68 ⟨_, rfl, by rw [h8]; exact H⟩)
  · have H := H.2 e2
    refine pt_d (pt_1 (fun n d => r_iloadn gx288_29 rfl) ?_)
    refine pt_d (pt_1 (fun n d => r_aloadn gx288_30 rfl) ?_)
    refine pt_d (pt_1 (fun n d => r_iloadn gx288_31 rfl) ?_)
    refine pt_d (pt_virt (as := [.int x3]) (r := [.int x2]) gx288_32 rfl (show zmt[203]? = some zM203 from rfl) rfl rfl rfl rfl (c_203 S z3) (kqP (fun v9 h9 => ?_)))
    show Pt _ _ _ 35 _ [.int v9, .int x2] _ _
    refine pt_d (pt_ifB_eq gx288_35 h9 (fun e10 => ?_) (fun e10 => ?_))
    · have H := H.1 e10
      refine pt_d (pt_iconst gx288_51 (fun v11 h11 => ?_))
      refine pt_d (pt_iadd gx288_52 z2 h11 (fun v12 h12 => ?_))
      refine pt_d (pt_1 (fun n d => r_istoren (L' := [some (.ref 72), some (.int x1), some (.int v12), some (.int x3), none, none, none, none]) gx288_53 rfl rfl) ?_)
      refine pt_d (pt_iinc (c := 1) gx288_54 rfl z3 (fun v13 h13 => ?_))
      show Pt _ _ _ _ [some (.ref 72), some (.int x1), some (.int v12), some (.int v13), none, none, none, none] [] _ _
      refine pt_d (pt_1 (fun n d => r_goto gx288_57) ?_)
      exact H v12 v13 h12 h13
    · have H := H.2 e10
      refine pt_d (pt_1 (fun n d => r_aloadn gx288_38 rfl) ?_)
      refine pt_d (pt_1 (fun n d => r_iloadn gx288_39 rfl) ?_)
      refine pt_d (pt_1 (fun n d => r_iloadn gx288_40 rfl) ?_)
      obtain ⟨pr14, H⟩ := H
      refine pt_d (pt_virt (as := [.int x3, .int x1]) (r := [.int x2]) gx288_41 rfl (show zmt[284]? = some zM284 from rfl) rfl rfl rfl rfl (c_284 S z3 z1 pr14) (kqP (fun v14 h14 => ?_)))
      show Pt _ _ _ 44 _ [.int v14, .int x2] _ _
      refine pt_d (pt_ifB_eq gx288_44 h14 (fun e15 => ?_) (fun e15 => ?_))
      · have H := H.1 e15
        refine pt_d (pt_iconst gx288_51 (fun v16 h16 => ?_))
        refine pt_d (pt_iadd gx288_52 z2 h16 (fun v17 h17 => ?_))
        refine pt_d (pt_1 (fun n d => r_istoren (L' := [some (.ref 72), some (.int x1), some (.int v17), some (.int x3), none, none, none, none]) gx288_53 rfl rfl) ?_)
        refine pt_d (pt_iinc (c := 1) gx288_54 rfl z3 (fun v18 h18 => ?_))
        show Pt _ _ _ _ [some (.ref 72), some (.int x1), some (.int v17), some (.int v18), none, none, none, none] [] _ _
        refine pt_d (pt_1 (fun n d => r_goto gx288_57) ?_)
        exact H v17 v18 h17 h18
      · have H := H.2 e15
        refine pt_d (pt_iconst gx288_47 (fun v19 h19 => ?_))
        refine pt_d (pt_1 (fun n d => r_goto gx288_48) ?_)
        refine pt_d (pt_iadd gx288_52 z2 h19 (fun v20 h20 => ?_))
        refine pt_d (pt_1 (fun n d => r_istoren (L' := [some (.ref 72), some (.int x1), some (.int v20), some (.int x3), none, none, none, none]) gx288_53 rfl rfl) ?_)
        refine pt_d (pt_iinc (c := 1) gx288_54 rfl z3 (fun v21 h21 => ?_))
        show Pt _ _ _ _ [some (.ref 72), some (.int x1), some (.int v20), some (.int v21), none, none, none, none] [] _ _
        refine pt_d (pt_1 (fun n d => r_goto gx288_57) ?_)
        exact H v20 v21 h20 h21
theorem d288_76 {n : Nat} {X : aX} {h : aH} {P : Int → aH → Prop} {x1 x2 x3 : Int32} {a1 a2 a3 : Int} (S : wS h) (z1 : x1.toInt = a1) (z2 : x2.toInt = a2) (z3 : x3.toInt = a3) (H : ((vw h 72 2 ≤ a3 → (∀ (w3 : Int32) (w4 : Int32) (w5 : Int32) (u6_ : Option Value) (u7_ : Option Value), w3.toInt = (-1) → w4.toInt = 0 → w5.toInt = 0 → Pt n X zM288 138 [some (.ref 72), some (.int x1), some (.int x2), some (.int w3), some (.int w4), some (.int w5), u6_, u7_] [] h (qI P))) ∧ (a3 < vw h 72 2 → ((¬ (mField (vw h) a3) → (∀ (w3 : Int32), w3.toInt = w32 (a3 + 1) → Pt n X zM288 76 [some (.ref 72), some (.int x1), some (.int x2), some (.int w3), none, none, none, none] [] h (qI P))) ∧ ((mField (vw h) a3) → (((0 ≤ vw h 72 19 ∧ vw h 72 19 ≤ 300) ∧ ∀ c, 0 ≤ c → c < 300 → 0 ≤ vw h 88 c ∧ vw h 88 c < 150) ∧ (((hasT (vw h) a3 a1) → (0 ≤ vw h 72 79 → vw h 72 79 < 10 → ∀ h_17 : aH, wS h_17 → vw h_17 = up (up (vw h) 132 (vw h 72 79) a3) 72 79 (w32 ((vw h 72 79) + 1)) → (∀ (w3 : Int32), w3.toInt = w32 (a3 + 1) → Pt n X zM288 76 [some (.ref 72), some (.int x1), some (.int x2), some (.int w3), none, none, none, none] [] h_17 (qI P)))) ∧ (¬ (hasT (vw h) a3 a1) → (∀ (w3 : Int32), w3.toInt = w32 (a3 + 1) → Pt n X zM288 76 [some (.ref 72), some (.int x1), some (.int x2), some (.int w3), none, none, none, none] [] h (qI P)))))))))) : Pt (n + 1) X zM288 76 [some (.ref 72), some (.int x1), some (.int x2), some (.int x3), none, none, none, none] [] h (qI P) := by
  refine pt_1 (fun n d => r_iloadn gx288_76 rfl) ?_
  refine pt_d (pt_1 (fun n d => r_aloadn gx288_77 rfl) ?_)
  refine pt_d (pt_getI (B := 2) gx288_78 S (fun v1 h1 => ?_))
  refine pt_d (pt_icmp_ge gx288_81 z3 h1 (fun e2 => ?_) (fun e2 => ?_))
  · have H := H.1 e2
    refine pt_d (pt_iconst gx288_130 (fun v3 h3 => ?_))
    refine pt_d (pt_1 (fun n d => r_istoren (L' := [some (.ref 72), some (.int x1), some (.int x2), some (.int v3), none, none, none, none]) gx288_131 rfl rfl) ?_)
    refine pt_d (pt_iconst gx288_132 (fun v4 h4 => ?_))
    refine pt_d (pt_1 (fun n d => r_istore (L' := [some (.ref 72), some (.int x1), some (.int x2), some (.int v3), some (.int v4), none, none, none]) gx288_133 rfl rfl) ?_)
    refine pt_d (pt_iconst gx288_135 (fun v5 h5 => ?_))
    refine pt_d (pt_1 (fun n d => r_istore (L' := [some (.ref 72), some (.int x1), some (.int x2), some (.int v3), some (.int v4), some (.int v5), none, none]) gx288_136 rfl rfl) ?_)
    exact H v3 v4 v5 _ _ h3 h4 h5
  · have H := H.2 e2
    refine pt_d (pt_1 (fun n d => r_aloadn gx288_84 rfl) ?_)
    refine pt_d (pt_1 (fun n d => r_iloadn gx288_85 rfl) ?_)
    refine pt_d (pt_virt (as := [.int x3]) (r := []) gx288_86 rfl (show zmt[203]? = some zM203 from rfl) rfl rfl rfl rfl (c_203 S z3) (kqP (fun v6 h6 => ?_)))
    show Pt _ _ _ 89 _ [.int v6] _ _
    refine pt_d (pt_ifB_eq gx288_89 h6 (fun e7 => ?_) (fun e7 => ?_))
    · have H := H.1 e7
      refine pt_d (pt_iinc (c := 1) gx288_124 rfl z3 (fun v8 h8 => ?_))
      show Pt _ _ _ _ [some (.ref 72), some (.int x1), some (.int x2), some (.int v8), none, none, none, none] [] _ _
      refine pt_d (pt_1 (fun n d => r_goto gx288_127) ?_)
      exact H v8 h8
    · have H := H.2 e7
      refine pt_d (pt_1 (fun n d => r_aloadn gx288_92 rfl) ?_)
      refine pt_d (pt_1 (fun n d => r_iloadn gx288_93 rfl) ?_)
      refine pt_d (pt_1 (fun n d => r_iloadn gx288_94 rfl) ?_)
      obtain ⟨pr9, H⟩ := H
      refine pt_d (pt_virt (as := [.int x3, .int x1]) (r := []) gx288_95 rfl (show zmt[284]? = some zM284 from rfl) rfl rfl rfl rfl (c_284 S z3 z1 pr9) (kqP (fun v9 h9 => ?_)))
      show Pt _ _ _ 98 _ [.int v9] _ _
      refine pt_d (pt_ifB_ne gx288_98 h9 (fun e10 => ?_) (fun e10 => ?_))
      · have H := H.1 e10
        refine pt_d (pt_1 (fun n d => r_aloadn gx288_104 rfl) ?_)
        refine pt_d (pt_getR gx288_105 S tr_72_80 ?_)
        refine pt_d (pt_1 (fun n d => r_aloadn gx288_108 rfl) ?_)
        refine pt_d (pt_getI (B := 79) gx288_109 S (fun v12 h12 => ?_))
        refine pt_d (pt_1 (fun n d => r_iloadn gx288_112 rfl) ?_)
        refine pt_d (pt_iast (N' := 10) gx288_113 S tl_132 h12 z3 (fun h_13 S13 p13 q13 e13 => ?_))
        have H := H p13 q13
        refine pt_d (pt_1 (fun n d => r_aloadn gx288_114 rfl) ?_)
        refine pt_d (pt_1 (fun n d => r_dup gx288_115 rfl) ?_)
        refine pt_d (pt_getI (B := 79) gx288_116 S13 (fun v14 h14 => ?_))
        have h14 : v14.toInt = vw h 72 79 := by rw [h14, e13, up_c (by decide)]
        refine pt_d (pt_iconst gx288_119 (fun v15 h15 => ?_))
        refine pt_d (pt_iadd gx288_120 h14 h15 (fun v16 h16 => ?_))
        refine pt_d (pt_putI (B := 79) gx288_121 S13 h16 (fun h_17 S17 e17 => ?_))
        refine pt_d (pt_iinc (c := 1) gx288_124 rfl z3 (fun v18 h18 => ?_))
        show Pt _ _ _ _ [some (.ref 72), some (.int x1), some (.int x2), some (.int v18), none, none, none, none] [] _ _
        refine pt_d (pt_1 (fun n d => r_goto gx288_127) ?_)
        have H := H h_17 S17 (by rw [e17, e13])
        exact H v18 h18
      · have H := H.2 e10
        refine pt_d (pt_1 (fun n d => r_goto gx288_101) ?_)
        refine pt_d (pt_iinc (c := 1) gx288_124 rfl z3 (fun v19 h19 => ?_))
        show Pt _ _ _ _ [some (.ref 72), some (.int x1), some (.int x2), some (.int v19), none, none, none, none] [] _ _
        refine pt_d (pt_1 (fun n d => r_goto gx288_127) ?_)
        exact H v19 h19
theorem d288_138 {n : Nat} {X : aX} {h : aH} {P : Int → aH → Prop} {x1 x2 x3 x4 x5 : Int32} {a1 a2 a3 a4 a5 : Int} {u6 u7 : Option Value} (S : wS h) (z1 : x1.toInt = a1) (z2 : x2.toInt = a2) (z3 : x3.toInt = a3) (z4 : x4.toInt = a4) (z5 : x5.toInt = a5) (H : ((bShl 1 (vw h 72 79) ≤ a5 → ∀ h_6 : aH, wS h_6 → vw h_6 = up (vw h) 72 81 0 → (∀ (w5 : Int32) (u6_ : Option Value) (u7_ : Option Value), w5.toInt = 0 → Pt n X zM288 266 [some (.ref 72), some (.int x1), some (.int x2), some (.int x3), some (.int x4), some (.int w5), u6_, u7_] [] h_6 (qI P))) ∧ (a5 < bShl 1 (vw h 72 79) → (∀ (w6 : Int32) (w7 : Int32), w6.toInt = 0 → w7.toInt = 0 → Pt n X zM288 155 [some (.ref 72), some (.int x1), some (.int x2), some (.int x3), some (.int x4), some (.int x5), some (.int w6), some (.int w7)] [] h (qI P))))) : Pt (n + 1) X zM288 138 [some (.ref 72), some (.int x1), some (.int x2), some (.int x3), some (.int x4), some (.int x5), u6, u7] [] h (qI P) := by
  refine pt_1 (fun n d => r_iload gx288_138 rfl) ?_
  refine pt_d (pt_iconst gx288_140 (fun v1 h1 => ?_))
  refine pt_d (pt_1 (fun n d => r_aloadn gx288_141 rfl) ?_)
  refine pt_d (pt_getI (B := 79) gx288_142 S (fun v2 h2 => ?_))
  refine pt_d (pt_ishl gx288_145 h1 h2 (fun v3 h3 => ?_))
  refine pt_d (pt_icmp_ge gx288_146 z5 h3 (fun e4 => ?_) (fun e4 => ?_))
  · have H := H.1 e4
    refine pt_d (pt_1 (fun n d => r_aloadn gx288_258 rfl) ?_)
    refine pt_d (pt_iconst gx288_259 (fun v5 h5 => ?_))
    refine pt_d (pt_putI (B := 81) gx288_260 S h5 (fun h_6 S6 e6 => ?_))
    refine pt_d (pt_iconst gx288_263 (fun v7 h7 => ?_))
    refine pt_d (pt_1 (fun n d => r_istore (L' := [some (.ref 72), some (.int x1), some (.int x2), some (.int x3), some (.int x4), some (.int v7), u6, u7]) gx288_264 rfl rfl) ?_)
    have H := H h_6 S6 (by rw [e6])
    exact H v7 _ _ h7
  · have H := H.2 e4
    refine pt_d (pt_iconst gx288_149 (fun v8 h8 => ?_))
    refine pt_d (pt_1 (fun n d => r_istore (L' := [some (.ref 72), some (.int x1), some (.int x2), some (.int x3), some (.int x4), some (.int x5), some (.int v8), u7]) gx288_150 rfl rfl) ?_)
    refine pt_d (pt_iconst gx288_152 (fun v9 h9 => ?_))
    refine pt_d (pt_1 (fun n d => r_istore (L' := [some (.ref 72), some (.int x1), some (.int x2), some (.int x3), some (.int x4), some (.int x5), some (.int v8), some (.int v9)]) gx288_153 rfl rfl) ?_)
    exact H v8 v9 h8 h9
theorem d288_155 {n : Nat} {X : aX} {h : aH} {P : Int → aH → Prop} {x1 x2 x3 x4 x5 x6 x7 : Int32} {a1 a2 a3 a4 a5 a6 a7 : Int} (S : wS h) (z1 : x1.toInt = a1) (z2 : x2.toInt = a2) (z3 : x3.toInt = a3) (z4 : x4.toInt = a4) (z5 : x5.toInt = a5) (z6 : x6.toInt = a6) (z7 : x7.toInt = a7) (H : ((vw h 72 79 ≤ a7 → ((a3 < 0 → ((((0 ≤ vw h 72 19 ∧ vw h 72 19 ≤ 300) ∧ ∀ c, 0 ≤ c → c < 300 → 0 ≤ vw h 88 c ∧ vw h 88 c < 150) ∧ 0 ≤ vw h 72 79 ∧ vw h 72 79 ≤ 10) ∧ (((cur (vw h) a5 a1) → (∀ (w5 : Int32) (u6_ : Option Value) (u7_ : Option Value), w5.toInt = w32 (a5 + 1) → Pt n X zM288 138 [some (.ref 72), some (.int x1), some (.int x2), some (.int x5), some (.int x6), some (.int w5), u6_, u7_] [] h (qI P))) ∧ (¬ (cur (vw h) a5 a1) → (∀ (w5 : Int32) (u6_ : Option Value) (u7_ : Option Value), w5.toInt = w32 (a5 + 1) → Pt n X zM288 138 [some (.ref 72), some (.int x1), some (.int x2), some (.int x3), some (.int x4), some (.int w5), u6_, u7_] [] h (qI P)))))) ∧ (0 ≤ a3 → ((a4 < a6 → (∀ (w5 : Int32) (u6_ : Option Value) (u7_ : Option Value), w5.toInt = w32 (a5 + 1) → Pt n X zM288 138 [some (.ref 72), some (.int x1), some (.int x2), some (.int x3), some (.int x4), some (.int w5), u6_, u7_] [] h (qI P))) ∧ (a6 ≤ a4 → ((a6 ≠ a4 → ((((0 ≤ vw h 72 19 ∧ vw h 72 19 ≤ 300) ∧ ∀ c, 0 ≤ c → c < 300 → 0 ≤ vw h 88 c ∧ vw h 88 c < 150) ∧ 0 ≤ vw h 72 79 ∧ vw h 72 79 ≤ 10) ∧ (((cur (vw h) a5 a1) → (∀ (w5 : Int32) (u6_ : Option Value) (u7_ : Option Value), w5.toInt = w32 (a5 + 1) → Pt n X zM288 138 [some (.ref 72), some (.int x1), some (.int x2), some (.int x5), some (.int x6), some (.int w5), u6_, u7_] [] h (qI P))) ∧ (¬ (cur (vw h) a5 a1) → (∀ (w5 : Int32) (u6_ : Option Value) (u7_ : Option Value), w5.toInt = w32 (a5 + 1) → Pt n X zM288 138 [some (.ref 72), some (.int x1), some (.int x2), some (.int x3), some (.int x4), some (.int w5), u6_, u7_] [] h (qI P)))))) ∧ (a6 = a4 → ((0 ≤ a5 ∧ a5 < 1024) ∧ ((0 ≤ a3 ∧ a3 < 1024) ∧ ((bcn (tb a3) 32 ≤ bcn (tb a5) 32 → (∀ (w5 : Int32) (u6_ : Option Value) (u7_ : Option Value), w5.toInt = w32 (a5 + 1) → Pt n X zM288 138 [some (.ref 72), some (.int x1), some (.int x2), some (.int x3), some (.int x4), some (.int w5), u6_, u7_] [] h (qI P))) ∧ (bcn (tb a5) 32 < bcn (tb a3) 32 → ((((0 ≤ vw h 72 19 ∧ vw h 72 19 ≤ 300) ∧ ∀ c, 0 ≤ c → c < 300 → 0 ≤ vw h 88 c ∧ vw h 88 c < 150) ∧ 0 ≤ vw h 72 79 ∧ vw h 72 79 ≤ 10) ∧ (((cur (vw h) a5 a1) → (∀ (w5 : Int32) (u6_ : Option Value) (u7_ : Option Value), w5.toInt = w32 (a5 + 1) → Pt n X zM288 138 [some (.ref 72), some (.int x1), some (.int x2), some (.int x5), some (.int x6), some (.int w5), u6_, u7_] [] h (qI P))) ∧ (¬ (cur (vw h) a5 a1) → (∀ (w5 : Int32) (u6_ : Option Value) (u7_ : Option Value), w5.toInt = w32 (a5 + 1) → Pt n X zM288 138 [some (.ref 72), some (.int x1), some (.int x2), some (.int x3), some (.int x4), some (.int w5), u6_, u7_] [] h (qI P)))))))))))))))) ∧ (a7 < vw h 72 79 → ((bAnd (bShr a5 a7) 1 ≠ 1 → (∀ (w6 : Int32) (w7 : Int32), w6.toInt = w32 (a6 + 0) → w7.toInt = w32 (a7 + 1) → Pt n X zM288 155 [some (.ref 72), some (.int x1), some (.int x2), some (.int x3), some (.int x4), some (.int x5), some (.int w6), some (.int w7)] [] h (qI P))) ∧ (bAnd (bShr a5 a7) 1 = 1 → (0 ≤ a7 → a7 < 10 → (0 ≤ vw h 132 a7 → vw h 132 a7 < 150 → (∀ (w6 : Int32) (w7 : Int32), w6.toInt = w32 (a6 + (vw h 78 (vw h 132 a7))) → w7.toInt = w32 (a7 + 1) → Pt n X zM288 155 [some (.ref 72), some (.int x1), some (.int x2), some (.int x3), some (.int x4), some (.int x5), some (.int w6), some (.int w7)] [] h (qI P))))))))) : Pt (n + 1) X zM288 155 [some (.ref 72), some (.int x1), some (.int x2), some (.int x3), some (.int x4), some (.int x5), some (.int x6), some (.int x7)] [] h (qI P) := by
  refine pt_1 (fun n d => r_iload gx288_155 rfl) ?_
  refine pt_d (pt_1 (fun n d => r_aloadn gx288_157 rfl) ?_)
  refine pt_d (pt_getI (B := 79) gx288_158 S (fun v1 h1 => ?_))
  refine pt_d (pt_icmp_ge gx288_161 z7 h1 (fun e2 => ?_) (fun e2 => ?_))
  · have H := H.1 e2
    refine pt_d (pt_1 (fun n d => r_iloadn gx288_202 rfl) ?_)
    refine pt_d (pt_if_lt gx288_203 z3 (fun e3 => ?_) (fun e3 => ?_))
    · have H := H.1 e3
      refine pt_d (pt_1 (fun n d => r_aloadn gx288_232 rfl) ?_)
      refine pt_d (pt_1 (fun n d => r_iload gx288_233 rfl) ?_)
      refine pt_d (pt_1 (fun n d => r_iloadn gx288_235 rfl) ?_)
      obtain ⟨pr4, H⟩ := H
      refine pt_d (pt_virt (as := [.int x5, .int x1]) (r := []) gx288_236 rfl (show zmt[286]? = some zM286 from rfl) rfl rfl rfl rfl (c_286 S z5 z1 pr4) (kqP (fun v4 h4 => ?_)))
      show Pt _ _ _ 239 _ [.int v4] _ _
      refine pt_d (pt_ifB_ne gx288_239 h4 (fun e5 => ?_) (fun e5 => ?_))
      · have H := H.1 e5
        refine pt_d (pt_1 (fun n d => r_iload gx288_245 rfl) ?_)
        refine pt_d (pt_1 (fun n d => r_istoren (L' := [some (.ref 72), some (.int x1), some (.int x2), some (.int x5), some (.int x4), some (.int x5), some (.int x6), some (.int x7)]) gx288_247 rfl rfl) ?_)
        refine pt_d (pt_1 (fun n d => r_iload gx288_248 rfl) ?_)
        refine pt_d (pt_1 (fun n d => r_istore (L' := [some (.ref 72), some (.int x1), some (.int x2), some (.int x5), some (.int x6), some (.int x5), some (.int x6), some (.int x7)]) gx288_250 rfl rfl) ?_)
        refine pt_d (pt_iinc (c := 1) gx288_252 rfl z5 (fun v6 h6 => ?_))
        show Pt _ _ _ _ [some (.ref 72), some (.int x1), some (.int x2), some (.int x5), some (.int x6), some (.int v6), some (.int x6), some (.int x7)] [] _ _
        refine pt_d (pt_1 (fun n d => r_goto gx288_255) ?_)
        exact H v6 _ _ h6
      · have H := H.2 e5
        refine pt_d (pt_1 (fun n d => r_goto gx288_242) ?_)
        refine pt_d (pt_iinc (c := 1) gx288_252 rfl z5 (fun v7 h7 => ?_))
        show Pt _ _ _ _ [some (.ref 72), some (.int x1), some (.int x2), some (.int x3), some (.int x4), some (.int v7), some (.int x6), some (.int x7)] [] _ _
        refine pt_d (pt_1 (fun n d => r_goto gx288_255) ?_)
        exact H v7 _ _ h7
    · have H := H.2 e3
      refine pt_d (pt_1 (fun n d => r_iload gx288_206 rfl) ?_)
      refine pt_d (pt_1 (fun n d => r_iload gx288_208 rfl) ?_)
      refine pt_d (pt_icmp_gt gx288_210 z6 z4 (fun e8 => ?_) (fun e8 => ?_))
      · have H := H.1 e8
        refine pt_d (pt_iinc (c := 1) gx288_252 rfl z5 (fun v9 h9 => ?_))
        show Pt _ _ _ _ [some (.ref 72), some (.int x1), some (.int x2), some (.int x3), some (.int x4), some (.int v9), some (.int x6), some (.int x7)] [] _ _
        refine pt_d (pt_1 (fun n d => r_goto gx288_255) ?_)
        exact H v9 _ _ h9
      · have H := H.2 e8
        refine pt_d (pt_1 (fun n d => r_iload gx288_213 rfl) ?_)
        refine pt_d (pt_1 (fun n d => r_iload gx288_215 rfl) ?_)
        refine pt_d (pt_icmp_ne gx288_217 z6 z4 (fun e10 => ?_) (fun e10 => ?_))
        · have H := H.1 e10
          refine pt_d (pt_1 (fun n d => r_aloadn gx288_232 rfl) ?_)
          refine pt_d (pt_1 (fun n d => r_iload gx288_233 rfl) ?_)
          refine pt_d (pt_1 (fun n d => r_iloadn gx288_235 rfl) ?_)
          obtain ⟨pr11, H⟩ := H
          refine pt_d (pt_virt (as := [.int x5, .int x1]) (r := []) gx288_236 rfl (show zmt[286]? = some zM286 from rfl) rfl rfl rfl rfl (c_286 S z5 z1 pr11) (kqP (fun v11 h11 => ?_)))
          show Pt _ _ _ 239 _ [.int v11] _ _
          refine pt_d (pt_ifB_ne gx288_239 h11 (fun e12 => ?_) (fun e12 => ?_))
          · have H := H.1 e12
            refine pt_d (pt_1 (fun n d => r_iload gx288_245 rfl) ?_)
            refine pt_d (pt_1 (fun n d => r_istoren (L' := [some (.ref 72), some (.int x1), some (.int x2), some (.int x5), some (.int x4), some (.int x5), some (.int x6), some (.int x7)]) gx288_247 rfl rfl) ?_)
            refine pt_d (pt_1 (fun n d => r_iload gx288_248 rfl) ?_)
            refine pt_d (pt_1 (fun n d => r_istore (L' := [some (.ref 72), some (.int x1), some (.int x2), some (.int x5), some (.int x6), some (.int x5), some (.int x6), some (.int x7)]) gx288_250 rfl rfl) ?_)
            refine pt_d (pt_iinc (c := 1) gx288_252 rfl z5 (fun v13 h13 => ?_))
            show Pt _ _ _ _ [some (.ref 72), some (.int x1), some (.int x2), some (.int x5), some (.int x6), some (.int v13), some (.int x6), some (.int x7)] [] _ _
            refine pt_d (pt_1 (fun n d => r_goto gx288_255) ?_)
            exact H v13 _ _ h13
          · have H := H.2 e12
            refine pt_d (pt_1 (fun n d => r_goto gx288_242) ?_)
            refine pt_d (pt_iinc (c := 1) gx288_252 rfl z5 (fun v14 h14 => ?_))
            show Pt _ _ _ _ [some (.ref 72), some (.int x1), some (.int x2), some (.int x3), some (.int x4), some (.int v14), some (.int x6), some (.int x7)] [] _ _
            refine pt_d (pt_1 (fun n d => r_goto gx288_255) ?_)
            exact H v14 _ _ h14
        · have H := H.2 e10
          refine pt_d (pt_1 (fun n d => r_iload gx288_220 rfl) ?_)
          obtain ⟨pr15, H⟩ := H
          refine pt_d (pt_stat (as := [.int x5]) (r := []) gx288_222 rfl (show zmt[287]? = some zM287 from rfl) rfl rfl rfl rfl (c_287 S z5 pr15) (kqP (fun v15 h15 => ?_)))
          show Pt _ _ _ 225 _ [.int v15] _ _
          refine pt_d (pt_1 (fun n d => r_iloadn gx288_225 rfl) ?_)
          obtain ⟨pr16, H⟩ := H
          refine pt_d (pt_stat (as := [.int x3]) (r := [.int v15]) gx288_226 rfl (show zmt[287]? = some zM287 from rfl) rfl rfl rfl rfl (c_287 S z3 pr16) (kqP (fun v16 h16 => ?_)))
          show Pt _ _ _ 229 _ [.int v16, .int v15] _ _
          refine pt_d (pt_icmp_ge gx288_229 h15 h16 (fun e17 => ?_) (fun e17 => ?_))
          · have H := H.1 e17
            refine pt_d (pt_iinc (c := 1) gx288_252 rfl z5 (fun v18 h18 => ?_))
            show Pt _ _ _ _ [some (.ref 72), some (.int x1), some (.int x2), some (.int x3), some (.int x4), some (.int v18), some (.int x6), some (.int x7)] [] _ _
            refine pt_d (pt_1 (fun n d => r_goto gx288_255) ?_)
            exact H v18 _ _ h18
          · have H := H.2 e17
            refine pt_d (pt_1 (fun n d => r_aloadn gx288_232 rfl) ?_)
            refine pt_d (pt_1 (fun n d => r_iload gx288_233 rfl) ?_)
            refine pt_d (pt_1 (fun n d => r_iloadn gx288_235 rfl) ?_)
            obtain ⟨pr19, H⟩ := H
            refine pt_d (pt_virt (as := [.int x5, .int x1]) (r := []) gx288_236 rfl (show zmt[286]? = some zM286 from rfl) rfl rfl rfl rfl (c_286 S z5 z1 pr19) (kqP (fun v19 h19 => ?_)))
            show Pt _ _ _ 239 _ [.int v19] _ _
            refine pt_d (pt_ifB_ne gx288_239 h19 (fun e20 => ?_) (fun e20 => ?_))
            · have H := H.1 e20
              refine pt_d (pt_1 (fun n d => r_iload gx288_245 rfl) ?_)
              refine pt_d (pt_1 (fun n d => r_istoren (L' := [some (.ref 72), some (.int x1), some (.int x2), some (.int x5), some (.int x4), some (.int x5), some (.int x6), some (.int x7)]) gx288_247 rfl rfl) ?_)
              refine pt_d (pt_1 (fun n d => r_iload gx288_248 rfl) ?_)
              refine pt_d (pt_1 (fun n d => r_istore (L' := [some (.ref 72), some (.int x1), some (.int x2), some (.int x5), some (.int x6), some (.int x5), some (.int x6), some (.int x7)]) gx288_250 rfl rfl) ?_)
              refine pt_d (pt_iinc (c := 1) gx288_252 rfl z5 (fun v21 h21 => ?_))
              show Pt _ _ _ _ [some (.ref 72), some (.int x1), some (.int x2), some (.int x5), some (.int x6), some (.int v21), some (.int x6), some (.int x7)] [] _ _
              refine pt_d (pt_1 (fun n d => r_goto gx288_255) ?_)
              exact H v21 _ _ h21
            · have H := H.2 e20
              refine pt_d (pt_1 (fun n d => r_goto gx288_242) ?_)
              refine pt_d (pt_iinc (c := 1) gx288_252 rfl z5 (fun v22 h22 => ?_))
              show Pt _ _ _ _ [some (.ref 72), some (.int x1), some (.int x2), some (.int x3), some (.int x4), some (.int v22), some (.int x6), some (.int x7)] [] _ _
              refine pt_d (pt_1 (fun n d => r_goto gx288_255) ?_)
              exact H v22 _ _ h22
  · have H := H.2 e2
    refine pt_d (pt_1 (fun n d => r_iload gx288_164 rfl) ?_)
    refine pt_d (pt_1 (fun n d => r_iload gx288_166 rfl) ?_)
    refine pt_d (pt_1 (fun n d => r_iload gx288_168 rfl) ?_)
    refine pt_d (pt_ishr gx288_170 z5 z7 (fun v23 h23 => ?_))
    refine pt_d (pt_iconst gx288_171 (fun v24 h24 => ?_))
    refine pt_d (pt_iand gx288_172 h23 h24 (fun v25 h25 => ?_))
    refine pt_d (pt_iconst gx288_173 (fun v26 h26 => ?_))
    refine pt_d (pt_icmp_ne gx288_174 h25 h26 (fun e27 => ?_) (fun e27 => ?_))
    · have H := H.1 e27
      refine pt_d (pt_iconst gx288_192 (fun v28 h28 => ?_))
      refine pt_d (pt_iadd gx288_193 z6 h28 (fun v29 h29 => ?_))
      refine pt_d (pt_1 (fun n d => r_istore (L' := [some (.ref 72), some (.int x1), some (.int x2), some (.int x3), some (.int x4), some (.int x5), some (.int v29), some (.int x7)]) gx288_194 rfl rfl) ?_)
      refine pt_d (pt_iinc (c := 1) gx288_196 rfl z7 (fun v30 h30 => ?_))
      show Pt _ _ _ _ [some (.ref 72), some (.int x1), some (.int x2), some (.int x3), some (.int x4), some (.int x5), some (.int v29), some (.int v30)] [] _ _
      refine pt_d (pt_1 (fun n d => r_goto gx288_199) ?_)
      exact H v29 v30 h29 h30
    · have H := H.2 e27
      refine pt_d (pt_1 (fun n d => r_aloadn gx288_177 rfl) ?_)
      refine pt_d (pt_getR gx288_178 S tr_72_8 ?_)
      refine pt_d (pt_1 (fun n d => r_aloadn gx288_181 rfl) ?_)
      refine pt_d (pt_getR gx288_182 S tr_72_80 ?_)
      refine pt_d (pt_1 (fun n d => r_iload gx288_185 rfl) ?_)
      refine pt_d (pt_iald (N' := 10) gx288_187 S tl_132 z7 (fun v33 p33 q33 h33 => ?_))
      have H := H p33 q33
      refine pt_d (pt_iald (N' := 150) gx288_188 S tl_78 h33 (fun v34 p34 q34 h34 => ?_))
      have H := H p34 q34
      refine pt_d (pt_1 (fun n d => r_goto gx288_189) ?_)
      refine pt_d (pt_iadd gx288_193 z6 h34 (fun v35 h35 => ?_))
      refine pt_d (pt_1 (fun n d => r_istore (L' := [some (.ref 72), some (.int x1), some (.int x2), some (.int x3), some (.int x4), some (.int x5), some (.int v35), some (.int x7)]) gx288_194 rfl rfl) ?_)
      refine pt_d (pt_iinc (c := 1) gx288_196 rfl z7 (fun v36 h36 => ?_))
      show Pt _ _ _ _ [some (.ref 72), some (.int x1), some (.int x2), some (.int x3), some (.int x4), some (.int x5), some (.int v35), some (.int v36)] [] _ _
      refine pt_d (pt_1 (fun n d => r_goto gx288_199) ?_)
      exact H v35 v36 h35 h36
theorem d288_266 {n : Nat} {X : aX} {h : aH} {P : Int → aH → Prop} {x1 x2 x3 x4 x5 : Int32} {a1 a2 a3 a4 a5 : Int} {u6 u7 : Option Value} (S : wS h) (z1 : x1.toInt = a1) (z2 : x2.toInt = a2) (z3 : x3.toInt = a3) (z4 : x4.toInt = a4) (z5 : x5.toInt = a5) (H : ((vw h 72 79 ≤ a5 → P a4 h) ∧ (a5 < vw h 72 79 → ((bAnd (bShr a3 a5) 1 ≠ 0 → (0 ≤ a5 → a5 < 10 → (0 ≤ vw h 72 81 → vw h 72 81 < 10 → ∀ h_15 : aH, wS h_15 → vw h_15 = up (up (vw h) 133 (vw h 72 81) (vw h 132 a5)) 72 81 (w32 ((vw h 72 81) + 1)) → (∀ (w5 : Int32) (u6_ : Option Value) (u7_ : Option Value), w5.toInt = w32 (a5 + 1) → Pt n X zM288 266 [some (.ref 72), some (.int x1), some (.int x2), some (.int x3), some (.int x4), some (.int w5), u6_, u7_] [] h_15 (qI P))))) ∧ (bAnd (bShr a3 a5) 1 = 0 → (∀ (w5 : Int32) (u6_ : Option Value) (u7_ : Option Value), w5.toInt = w32 (a5 + 1) → Pt n X zM288 266 [some (.ref 72), some (.int x1), some (.int x2), some (.int x3), some (.int x4), some (.int w5), u6_, u7_] [] h (qI P))))))) : Pt (n + 1) X zM288 266 [some (.ref 72), some (.int x1), some (.int x2), some (.int x3), some (.int x4), some (.int x5), u6, u7] [] h (qI P) := by
  refine pt_1 (fun n d => r_iload gx288_266 rfl) ?_
  refine pt_d (pt_1 (fun n d => r_aloadn gx288_268 rfl) ?_)
  refine pt_d (pt_getI (B := 79) gx288_269 S (fun v1 h1 => ?_))
  refine pt_d (pt_icmp_ge gx288_272 z5 h1 (fun e2 => ?_) (fun e2 => ?_))
  · have H := H.1 e2
    refine pt_d (pt_1 (fun n d => r_iload gx288_319 rfl) ?_)
    exact pt_d (pt_iret gx288_321 ⟨_, rfl, by rw [z4]; exact H⟩)
  · have H := H.2 e2
    refine pt_d (pt_1 (fun n d => r_iloadn gx288_275 rfl) ?_)
    refine pt_d (pt_1 (fun n d => r_iload gx288_276 rfl) ?_)
    refine pt_d (pt_ishr gx288_278 z3 z5 (fun v3 h3 => ?_))
    refine pt_d (pt_iconst gx288_279 (fun v4 h4 => ?_))
    refine pt_d (pt_iand gx288_280 h3 h4 (fun v5 h5 => ?_))
    refine pt_d (pt_if_ne gx288_281 h5 (fun e6 => ?_) (fun e6 => ?_))
    · have H := H.1 e6
      refine pt_d (pt_1 (fun n d => r_aloadn gx288_287 rfl) ?_)
      refine pt_d (pt_getR gx288_288 S tr_72_82 ?_)
      refine pt_d (pt_1 (fun n d => r_aloadn gx288_291 rfl) ?_)
      refine pt_d (pt_getI (B := 81) gx288_292 S (fun v8 h8 => ?_))
      refine pt_d (pt_1 (fun n d => r_aloadn gx288_295 rfl) ?_)
      refine pt_d (pt_getR gx288_296 S tr_72_80 ?_)
      refine pt_d (pt_1 (fun n d => r_iload gx288_299 rfl) ?_)
      refine pt_d (pt_iald (N' := 10) gx288_301 S tl_132 z5 (fun v10 p10 q10 h10 => ?_))
      have H := H p10 q10
      refine pt_d (pt_iast (N' := 10) gx288_302 S tl_133 h8 h10 (fun h_11 S11 p11 q11 e11 => ?_))
      have H := H p11 q11
      refine pt_d (pt_1 (fun n d => r_aloadn gx288_303 rfl) ?_)
      refine pt_d (pt_1 (fun n d => r_dup gx288_304 rfl) ?_)
      refine pt_d (pt_getI (B := 81) gx288_305 S11 (fun v12 h12 => ?_))
      have h12 : v12.toInt = vw h 72 81 := by rw [h12, e11, up_c (by decide)]
      refine pt_d (pt_iconst gx288_308 (fun v13 h13 => ?_))
      refine pt_d (pt_iadd gx288_309 h12 h13 (fun v14 h14 => ?_))
      refine pt_d (pt_putI (B := 81) gx288_310 S11 h14 (fun h_15 S15 e15 => ?_))
      refine pt_d (pt_iinc (c := 1) gx288_313 rfl z5 (fun v16 h16 => ?_))
      show Pt _ _ _ _ [some (.ref 72), some (.int x1), some (.int x2), some (.int x3), some (.int x4), some (.int v16), u6, u7] [] _ _
      refine pt_d (pt_1 (fun n d => r_goto gx288_316) ?_)
      have H := H h_15 S15 (by rw [e15, e11])
      exact H v16 _ _ h16
    · have H := H.2 e6
      refine pt_d (pt_1 (fun n d => r_goto gx288_284) ?_)
      refine pt_d (pt_iinc (c := 1) gx288_313 rfl z5 (fun v17 h17 => ?_))
      show Pt _ _ _ _ [some (.ref 72), some (.int x1), some (.int x2), some (.int x3), some (.int x4), some (.int v17), u6, u7] [] _ _
      refine pt_d (pt_1 (fun n d => r_goto gx288_316) ?_)
      exact H v17 _ _ h17
def sN0 (b i : Int) : Prop := bAnd (bShr b i) 1 ≠ 0
def R8e (U : vS) (b l : Int) (m : Int) (r : Int) (W : vS) : Prop := r = l ∧ ((∀ (c : Nat) j, c ≠ 72 → c ≠ 133 → W c j = U c j) ∧ ∀ j, j ≠ 81 → W 72 j = U 72 j) ∧ W 72 81 = nQ (sN0 b) m.toNat ∧ ∀ i : Nat, (i : Int) < m → sN0 b (i : Nat) → W 133 (nQ (sN0 b) i) = U 132 (i : Nat)
theorem l_8d {X : aX} {U : vS} {b l m : Int} (hm : 0 ≤ m ∧ m ≤ 10) (um : U 72 79 = m) : ∀ (n : Nat) (h : aH) (x1 x2 x3 x4 x5 : Int32) (u6 u7 : Option Value) (k : Nat), wS h → x3.toInt = b → x4.toInt = l → x5.toInt = (k : Int) → (k : Int) ≤ m → (((∀ (c : Nat) j, c ≠ 72 → c ≠ 133 → vw h c j = U c j) ∧ ∀ j, j ≠ 81 → vw h 72 j = U 72 j) ∧ vw h 72 81 = nQ (sN0 b) k ∧ ∀ i : Nat, i < k → sN0 b (i : Nat) → vw h 133 (nQ (sN0 b) i) = U 132 (i : Nat)) → Pt n X zM288 266 [some (.ref 72), some (.int x1), some (.int x2), some (.int x3), some (.int x4), some (.int x5), u6, u7] [] h (qI (fun r h' => wS h' ∧ R8e U b l m r (vw h'))) := by
  intro n
  induction n with
  | zero => intros; exact pt_z
  | succ n ih =>
    intro h x1 x2 x3 x4 x5 u6 u7 k S h3 h4 h5 hk F
    have F0 := F
    obtain ⟨⟨f1, f2⟩, f4, f5⟩ := F0
    have q := nQ_b (sN0 b) k
    have m79 : vw h 72 79 = m := (f2 79 (by decide)).trans um
    refine d288_266 S rfl rfl h3 h4 h5 ⟨fun e => ⟨S, rfl, ⟨f1, f2⟩, ?_, fun i hi r => f5 i (by omega) r⟩, fun e => ⟨fun z _ _ _ _ g S2 eg w u v g5 => ?_, fun z w u v g5 => ?_⟩⟩
    · rw [f4, show m.toNat = k by omega]
    · replace g5 := w_1 g5 (by omega) (by omega)
      refine ih g x1 x2 x3 x4 w u v (k + 1) S2 h3 h4 (by omega) (by omega) ⟨⟨fun c j a d => ?_, fun j a => ?_⟩, ?_, fun i hi r => ?_⟩
      · rw [eg, up_c a, up_c d]
        exact f1 c j a d
      · rw [eg, up_j a, up_c (by decide)]
        exact f2 j a
      · rw [eg, up_s, f4, nQ_t (show sN0 b (k : Nat) from z), w32_id (by omega) (by omega)]
      · rw [eg, up_c (by decide), up_p, f4]
        by_cases y : i = k
        · rw [y, if_pos rfl]
          exact f1 132 _ (by decide) (by decide)
        · have lt := nQ_lt (R := sN0 b) (show i < k by omega) r
          rw [if_neg (by omega)]
          exact f5 i (by omega) r
    · replace g5 := w_1 g5 (by omega) (by omega)
      have nz : ¬ sN0 b (k : Nat) := fun w => w z
      refine ih h x1 x2 x3 x4 w u v (k + 1) S h3 h4 (by omega) (by omega) ⟨⟨f1, f2⟩, ?_, fun i hi r => ?_⟩
      · rw [nQ_f nz, Int.add_zero]
        exact f4
      · by_cases y : i = k
        · rw [y] at r
          exact absurd r nz
        · exact f5 i (by omega) r
def maN (V : vS) (s : Int) : Nat → Int
  | 0 => 0
  | i + 1 => w32 (maN V s i + (if bAnd (bShr s (i : Nat)) 1 = 1 then V 78 (V 132 (i : Nat)) else 0))
theorem maN_s (V : vS) (s : Int) (i : Nat) : maN V s (i + 1) = w32 (maN V s i + (if bAnd (bShr s (i : Nat)) 1 = 1 then V 78 (V 132 (i : Nat)) else 0)) := rfl
def mBp (V : vS) (y m : Int) (s : Int) (p : Int × Int) : Prop := (p.1 < 0 ∨ maN V s m.toNat < p.2 ∨ (maN V s m.toNat = p.2 ∧ bcn (tb s) 32 < bcn (tb p.1) 32)) ∧ cur V s y
noncomputable def mBs (V : vS) (y m : Int) : Nat → Int × Int
  | 0 => (-1, 0)
  | s + 1 => @ite (Int × Int) (mBp V y m (s : Nat) (mBs V y m s)) (Classical.propDecidable _) (((s : Nat) : Int), maN V (s : Nat) m.toNat) (mBs V y m s)
theorem mBs_t {V : vS} {y m : Int} {s : Nat} (h : mBp V y m (s : Nat) (mBs V y m s)) : mBs V y m (s + 1) = (((s : Nat) : Int), maN V (s : Nat) m.toNat) := if_pos h
theorem mBs_f {V : vS} {y m : Int} {s : Nat} (h : ¬ mBp V y m (s : Nat) (mBs V y m s)) : mBs V y m (s + 1) = mBs V y m s := if_neg h
theorem mBs_b {V : vS} {y m : Int} : ∀ s : Nat, -1 ≤ (mBs V y m s).1 ∧ (mBs V y m s).1 < (s : Int)
  | 0 => by
    show (-1 : Int) ≤ -1 ∧ (-1 : Int) < ((0 : Nat) : Int)
    omega
  | s + 1 => by
    have ih := mBs_b (V := V) (y := y) (m := m) s
    by_cases z : mBp V y m (s : Nat) (mBs V y m s)
    · rw [mBs_t z]
      show (-1 : Int) ≤ (s : Int) ∧ (s : Int) < ((s + 1 : Nat) : Int)
      omega
    · rw [mBs_f z]
      omega
theorem l_8c {X : aX} {h : aH} {y m : Int} (S : wS h) (hN : 0 ≤ vw h 72 19 ∧ vw h 72 19 ≤ 300) (hF : ∀ c, 0 ≤ c → c < 300 → 0 ≤ vw h 88 c ∧ vw h 88 c < 150) (hm : 0 ≤ m ∧ m ≤ 10) (um : vw h 72 79 = m) : ∀ n : Nat, (∀ (x1 x2 x3 x4 x5 : Int32) (u6 u7 : Option Value) (s : Nat), x1.toInt = y → x3.toInt = (mBs (vw h) y m s).1 → x4.toInt = (mBs (vw h) y m s).2 → x5.toInt = (s : Int) → s ≤ 2 ^ m.toNat → Pt n X zM288 138 [some (.ref 72), some (.int x1), some (.int x2), some (.int x3), some (.int x4), some (.int x5), u6, u7] [] h (qI (fun r h' => wS h' ∧ R8e (vw h) (mBs (vw h) y m (2 ^ m.toNat)).1 (mBs (vw h) y m (2 ^ m.toNat)).2 m r (vw h')))) ∧
    (∀ (x1 x2 x3 x4 x5 x6 x7 : Int32) (s k : Nat), x1.toInt = y → x3.toInt = (mBs (vw h) y m s).1 → x4.toInt = (mBs (vw h) y m s).2 → x5.toInt = (s : Int) → (s : Int) < ((2 ^ m.toNat : Nat) : Int) → x6.toInt = maN (vw h) (s : Nat) k → x7.toInt = (k : Int) → (k : Int) ≤ m → Pt n X zM288 155 [some (.ref 72), some (.int x1), some (.int x2), some (.int x3), some (.int x4), some (.int x5), some (.int x6), some (.int x7)] [] h (qI (fun r h' => wS h' ∧ R8e (vw h) (mBs (vw h) y m (2 ^ m.toNat)).1 (mBs (vw h) y m (2 ^ m.toNat)).2 m r (vw h')))) := by
  have e2 : bShl 1 m = ((2 ^ m.toNat : Nat) : Int) := by
    have := shl1 ⟨m.toNat, by omega⟩
    rw [show (((⟨m.toNat, by omega⟩ : Fin 11).val : Nat) : Int) = m by show ((m.toNat : Nat) : Int) = m; omega] at this
    exact this
  have pb := p2_b hm
  intro n
  induction n with
  | zero => exact ⟨by intros; exact pt_z, by intros; exact pt_z⟩
  | succ n ih =>
    refine ⟨fun x1 x2 x3 x4 x5 u6 u7 s h1 h3 h4 h5 hs => ?_, fun x1 x2 x3 x4 x5 x6 x7 s k h1 h3 h4 h5 hs h6 h7 hk => ?_⟩
    · refine d288_138 S h1 rfl h3 h4 h5 ⟨fun e g S2 eg w u v g5 => ?_, fun e w6 w7 g6 g7 => ?_⟩
      · rw [um, e2] at e
        have es : s = 2 ^ m.toNat := by
          generalize 2 ^ m.toNat = u at e hs ⊢
          omega
        rw [es] at h3 h4
        exact l_8d (U := vw h) hm um n g x1 x2 x3 x4 w u v 0 S2 h3 h4 g5 hm.1 ⟨⟨fun c j a _ => by rw [eg, up_c a], fun j a => by rw [eg, up_j a]⟩, by rw [eg, up_s]; rfl, fun i hi => absurd hi (Nat.not_lt_zero _)⟩
      · rw [um, e2] at e
        exact ih.2 x1 x2 x3 x4 x5 w6 w7 s 0 h1 h3 h4 h5 e g6 g7 hm.1
    · have mb := mBs_b (V := vw h) (y := y) (m := m) s
      have hP : ((0 ≤ vw h 72 19 ∧ vw h 72 19 ≤ 300) ∧ ∀ c, 0 ≤ c → c < 300 → 0 ≤ vw h 88 c ∧ vw h 88 c < 150) ∧ 0 ≤ vw h 72 79 ∧ vw h 72 79 ≤ 10 := ⟨⟨hN, hF⟩, by omega, by omega⟩
      have nx : ∀ w : Int32, w.toInt = w32 ((s : Int) + 1) → w.toInt = ((s + 1 : Nat) : Int) ∧ s + 1 ≤ 2 ^ m.toNat := fun w g => by
        replace g := w_1 g (by omega) (by omega)
        refine ⟨by omega, ?_⟩
        generalize 2 ^ m.toNat = u at hs ⊢
        omega
      have keep : ¬ mBp (vw h) y m (s : Nat) (mBs (vw h) y m s) → ∀ (w : Int32) (u v : Option Value), w.toInt = w32 ((s : Int) + 1) → Pt n X zM288 138 [some (.ref 72), some (.int x1), some (.int x2), some (.int x3), some (.int x4), some (.int w), u, v] [] h (qI (fun r h' => wS h' ∧ R8e (vw h) (mBs (vw h) y m (2 ^ m.toNat)).1 (mBs (vw h) y m (2 ^ m.toNat)).2 m r (vw h'))) := fun z w u v g =>
        ih.1 x1 x2 x3 x4 w u v (s + 1) h1 (by rw [mBs_f z]; exact h3) (by rw [mBs_f z]; exact h4) (nx w g).1 (nx w g).2
      have take : (k : Int) = m → mBp (vw h) y m (s : Nat) (mBs (vw h) y m s) → ∀ (w : Int32) (u v : Option Value), w.toInt = w32 ((s : Int) + 1) → Pt n X zM288 138 [some (.ref 72), some (.int x1), some (.int x2), some (.int x5), some (.int x6), some (.int w), u, v] [] h (qI (fun r h' => wS h' ∧ R8e (vw h) (mBs (vw h) y m (2 ^ m.toNat)).1 (mBs (vw h) y m (2 ^ m.toNat)).2 m r (vw h'))) := fun ek z w u v g =>
        ih.1 x1 x2 x5 x6 w u v (s + 1) h1 (by rw [mBs_t z]; exact h5) (by rw [mBs_t z, h6]; exact congrArg (maN (vw h) (s : Nat)) (by omega)) (nx w g).1 (nx w g).2
      refine d288_155 S h1 rfl h3 h4 h5 h6 h7 ⟨fun e => ?_, fun e => ⟨fun z w6 w7 g6 g7 => ?_, fun z _ _ _ _ w6 w7 g6 g7 => ?_⟩⟩
      · rw [um] at e
        have ek : (k : Int) = m := by omega
        have en : m.toNat = k := by omega
        refine ⟨fun b0 => ⟨hP, fun c w u v g => take ek ⟨Or.inl b0, c⟩ w u v g, fun c w u v g => keep (fun z => c z.2) w u v g⟩, fun b0 => ⟨fun lt w u v g => keep (fun z => ?_) w u v g, fun le => ⟨fun ne => ⟨hP, fun c w u v g => take ek ⟨Or.inr (Or.inl (by rw [en]; omega)), c⟩ w u v g, fun c w u v g => keep (fun z => c z.2) w u v g⟩, fun eq => ⟨⟨by omega, by omega⟩, ⟨by omega, by omega⟩, fun bl w u v g => keep (fun z => ?_) w u v g, fun bl => ⟨hP, fun c w u v g => take ek ⟨Or.inr (Or.inr ⟨by rw [en]; exact eq, bl⟩), c⟩ w u v g, fun c w u v g => keep (fun z => c z.2) w u v g⟩⟩⟩⟩⟩
        · obtain ⟨z, -⟩ := z
          rw [en] at z
          omega
        · obtain ⟨z, -⟩ := z
          rw [en] at z
          omega
      · replace g7 := w_1 g7 (by omega) (by omega)
        rw [um] at e
        refine ih.2 x1 x2 x3 x4 x5 w6 w7 s (k + 1) h1 h3 h4 h5 hs ?_ (by omega) (by omega)
        rw [maN_s, if_neg z]
        exact g6
      · replace g7 := w_1 g7 (by omega) (by omega)
        rw [um] at e
        refine ih.2 x1 x2 x3 x4 x5 w6 w7 s (k + 1) h1 h3 h4 h5 hs ?_ (by omega) (by omega)
        rw [maN_s, if_pos z]
        exact g6
def TM (V : vS) (y b : Int) : Prop := mField V b ∧ hasT V b y
theorem mMt_w {V W : vS} (e : ∀ j, W 80 j = V 80 j) (a b : Int) : mMt W a b ↔ mMt V a b := by
  unfold mMt
  simp only [e]
theorem hasT_w {V W : vS} (e : ∀ (c : Nat) j, c ≠ 72 → c ≠ 132 → W c j = V c j) (e19 : W 72 19 = V 72 19) (b y : Int) : hasT W b y ↔ hasT V b y := by
  unfold hasT inY mTr
  simp only [mMt_w (fun j => e 80 j (by decide) (by decide)), e 103 _ (show 103 ≠ 72 by decide) (show 103 ≠ 132 by decide), e 90 _ (show 90 ≠ 72 by decide) (show 90 ≠ 132 by decide), e 88 _ (show 88 ≠ 72 by decide) (show 88 ≠ 132 by decide), e 87 _ (show 87 ≠ 72 by decide) (show 87 ≠ 132 by decide), e19]
theorem TM_w {V W : vS} (e : ∀ (c : Nat) j, c ≠ 72 → c ≠ 132 → W c j = V c j) (e2 : ∀ j, j ≠ 79 → W 72 j = V 72 j) (b y : Int) : (mField W b ↔ mField V b) ∧ (hasT W b y ↔ hasT V b y) := by
  refine ⟨?_, hasT_w e (e2 19 (by decide)) b y⟩
  unfold mField mBody
  rw [e2 2 (by decide), e 73 b (by decide) (by decide)]
def R288 (V : vS) (y r : Int) (W : vS) : Prop := (10 < nQ (TM V y) (V 72 2).toNat ∧ r = -4 ∧ W = V) ∨ (nQ (TM V y) (V 72 2).toNat ≤ 10 ∧ ∃ U : vS, ((∀ (c : Nat) j, c ≠ 72 → c ≠ 132 → U c j = V c j) ∧ ∀ j, j ≠ 79 → U 72 j = V 72 j) ∧ U 72 79 = nQ (TM V y) (V 72 2).toNat ∧ (∀ b : Nat, (b : Int) < V 72 2 → TM V y (b : Nat) → U 132 (nQ (TM V y) b) = (b : Nat)) ∧ R8e U (mBs U y (nQ (TM V y) (V 72 2).toNat) (2 ^ (nQ (TM V y) (V 72 2).toNat).toNat)).1 (mBs U y (nQ (TM V y) (V 72 2).toNat) (2 ^ (nQ (TM V y) (V 72 2).toNat).toNat)).2 (nQ (TM V y) (V 72 2).toNat) r W)
theorem l_8b {X : aX} {V : vS} {y : Int} (hn : 0 ≤ V 72 2 ∧ V 72 2 ≤ 150) (hN : 0 ≤ V 72 19 ∧ V 72 19 ≤ 300) (hF : ∀ c, 0 ≤ c → c < 300 → 0 ≤ V 88 c ∧ V 88 c < 150) (h10 : nQ (TM V y) (V 72 2).toNat ≤ 10) : ∀ (n : Nat) (h : aH) (x1 x2 x3 : Int32) (k : Nat), wS h → x1.toInt = y → x3.toInt = (k : Int) → (k : Int) ≤ V 72 2 → (((∀ (c : Nat) j, c ≠ 72 → c ≠ 132 → vw h c j = V c j) ∧ ∀ j, j ≠ 79 → vw h 72 j = V 72 j) ∧ vw h 72 79 = nQ (TM V y) k ∧ ∀ b : Nat, b < k → TM V y (b : Nat) → vw h 132 (nQ (TM V y) b) = (b : Nat)) → Pt n X zM288 76 [some (.ref 72), some (.int x1), some (.int x2), some (.int x3), none, none, none, none] [] h (qI (fun r h' => wS h' ∧ R288 V y r (vw h'))) := by
  intro n
  induction n with
  | zero => intros; exact pt_z
  | succ n ih =>
    intro h x1 x2 x3 k S h1 h3 hk F
    obtain ⟨⟨f1, f2⟩, f79, fl⟩ := F
    obtain ⟨tf, th⟩ := TM_w f1 f2 (k : Nat) y
    have n2 := f2 2 (by decide)
    have b := nQ_b (TM V y) k
    have hF' : ∀ c, 0 ≤ c → c < 300 → 0 ≤ vw h 88 c ∧ vw h 88 c < 150 := fun c a d => by rw [f1 88 c (by decide) (by decide)]; exact hF c a d
    have hN' : 0 ≤ vw h 72 19 ∧ vw h 72 19 ≤ 300 := by rw [f2 19 (by decide)]; exact hN
    have skip : (k : Int) < vw h 72 2 → ¬ TM V y (k : Nat) → ∀ w : Int32, w.toInt = w32 ((k : Int) + 1) → Pt n X zM288 76 [some (.ref 72), some (.int x1), some (.int x2), some (.int w), none, none, none, none] [] h (qI (fun r h' => wS h' ∧ R288 V y r (vw h'))) := by
      intro e z w g
      replace g := w_1 g (by omega) (by omega)
      refine ih h x1 x2 w (k + 1) S h1 (by omega) (by omega) ⟨⟨f1, f2⟩, ?_, fun b' hb r => ?_⟩
      · rw [nQ_f z, Int.add_zero]; exact f79
      · by_cases q : b' = k
        · rw [q] at r
          exact absurd r z
        · exact fl b' (by omega) r
    refine d288_76 S h1 rfl h3 ⟨fun e w3 w4 w5 u v g3 g4 g5 => ?_, fun e => ⟨fun z w g => skip e (fun q => z (tf.mpr q.1)) w g, fun z => ⟨⟨hN', hF'⟩, fun z2 _ _ g S2 eg w g3 => ?_, fun z2 w g => skip e (fun q => z2 (th.mpr q.2)) w g⟩⟩⟩
    · have kn : (V 72 2).toNat = k := by omega
      rw [kn] at h10
      refine pt_q ((l_8c (m := nQ (TM V y) k) S hN' hF' ⟨b.1, h10⟩ f79 n).1 x1 x2 w3 w4 w5 u v 0 h1 g3 g4 g5 (Nat.zero_le _)) ?_
      rintro v h' ⟨x, ev, S', R⟩
      refine ⟨x, ev, S', Or.inr ⟨by rw [kn]; exact h10, vw h, ⟨f1, f2⟩, by rw [kn]; exact f79, fun b' hb r => fl b' (by omega) r, ?_⟩⟩
      rw [kn]
      exact R
    · have t : TM V y (k : Nat) := ⟨tf.mp z, th.mp z2⟩
      replace g3 := w_1 g3 (by omega) (by omega)
      refine ih g x1 x2 w (k + 1) S2 h1 (by omega) (by omega) ⟨⟨fun c j a d => ?_, fun j a => ?_⟩, ?_, fun b' hb r => ?_⟩
      · rw [eg, up_c a, up_c d]
        exact f1 c j a d
      · rw [eg, up_j a, up_c (by decide)]
        exact f2 j a
      · rw [eg, up_s, f79, nQ_t t, w32_id (by omega) (by omega)]
      · rw [eg, up_c (by decide), up_p, f79]
        by_cases q : b' = k
        · rw [q, if_pos rfl]
        · have lt := nQ_lt (R := TM V y) (show b' < k by omega) r
          rw [if_neg (by omega)]
          exact fl b' (by omega) r
theorem l_8a {X : aX} {h : aH} {y : Int} (S : wS h) (hn : 0 ≤ vw h 72 2 ∧ vw h 72 2 ≤ 150) (hN : 0 ≤ vw h 72 19 ∧ vw h 72 19 ≤ 300) (hF : ∀ c, 0 ≤ c → c < 300 → 0 ≤ vw h 88 c ∧ vw h 88 c < 150) : ∀ (n : Nat) (x1 x2 x3 : Int32) (k : Nat), x1.toInt = y → x2.toInt = nQ (TM (vw h) y) k → x3.toInt = (k : Int) → (k : Int) ≤ vw h 72 2 → Pt n X zM288 21 [some (.ref 72), some (.int x1), some (.int x2), some (.int x3), none, none, none, none] [] h (qI (fun r h' => wS h' ∧ R288 (vw h) y r (vw h'))) := by
  intro n
  induction n with
  | zero => intros; exact pt_z
  | succ n ih =>
    intro x1 x2 x3 k h1 h2 h3 hk
    have b := nQ_b (TM (vw h) y) k
    have skip : (k : Int) < vw h 72 2 → ¬ TM (vw h) y (k : Nat) → ∀ w2 w : Int32, w2.toInt = w32 (nQ (TM (vw h) y) k + 0) → w.toInt = w32 ((k : Int) + 1) → Pt n X zM288 21 [some (.ref 72), some (.int x1), some (.int w2), some (.int w), none, none, none, none] [] h (qI (fun r h' => wS h' ∧ R288 (vw h) y r (vw h'))) := by
      intro e z w2 w g2 g
      replace g := w_1 g (by omega) (by omega)
      replace g2 := w_1 g2 (by omega) (by omega)
      exact ih x1 w2 w (k + 1) h1 (by rw [nQ_f z]; exact g2) (by omega) (by omega)
    refine d288_21 S h1 h2 h3 ⟨fun e => ⟨fun le g S2 eg w g3 => ?_, fun gt => ⟨S, Or.inl ⟨?_, rfl, rfl⟩⟩⟩, fun e => ⟨fun z w2 w g2 g => skip e (fun q => z q.1) w2 w g2 g, fun z => ⟨⟨hN, hF⟩, fun z2 w2 w g2 g => skip e (fun q => z2 q.2) w2 w g2 g, fun z2 w2 w g2 g => ?_⟩⟩⟩
    · have kn : (vw h 72 2).toNat = k := by omega
      exact l_8b (V := vw h) hn hN hF (by rw [kn]; exact le) n g x1 x2 w 0 S2 h1 g3 hn.1 ⟨⟨fun c j a _ => by rw [eg, up_c a], fun j a => by rw [eg, up_j a]⟩, by rw [eg, up_s]; rfl, fun b' hb => absurd hb (Nat.not_lt_zero _)⟩
    · have kn : (vw h 72 2).toNat = k := by omega
      rw [kn]
      exact gt
    · replace g := w_1 g (by omega) (by omega)
      replace g2 := w_1 g2 (by omega) (by omega)
      exact ih x1 w2 w (k + 1) h1 (by rw [nQ_t (P := TM (vw h) y) ⟨z, z2⟩]; exact g2) (by omega) (by omega)
def R88 (V : vS) (y r : Int) (W : vS) : Prop := (¬ (0 ≤ y ∧ y ≤ 9) ∧ r = -1 ∧ W = V) ∨ ((0 ≤ y ∧ y ≤ 9) ∧ ∃ G, R239 V (V 72 1) G ∧ R288 G y r W)
theorem c_288w {n : Nat} {X : aX} {h : aH} {x1 : Int32} {a1 : Int} (S : wS h) (z1 : x1.toInt = a1) (I : IV h) : Pt n X zM288 0 [some (.ref 72), some (.int x1), none, none, none, none, none, none] [] h (qI (fun r h' => ((0 ≤ vw h 72 2 ∧ vw h 72 2 ≤ 150) ∧ (∀ c, 0 ≤ c → c < 300 → 0 ≤ vw h 88 c ∧ vw h 88 c < 150) → R88 (vw h) a1 r (vw h')) ∧ IV h')) := by
  have c : (0 ≤ vw h 72 2 ∧ vw h 72 2 ≤ 150) ∧ (∀ c, 0 ≤ c → c < 300 → 0 ≤ vw h 88 c ∧ vw h 88 c < 150) → Pt n X zM288 0 [some (.ref 72), some (.int x1), none, none, none, none, none, none] [] h (qI (fun r h' => R88 (vw h) a1 r (vw h'))) := fun hh => by
    refine pt_d (d288_0 S z1 ⟨fun e => ⟨I.2.2.2, fun g R w2 w3 g2 g3 => ?_⟩, fun e => Or.inl ⟨e, rfl, rfl⟩⟩)
    obtain ⟨S2, R⟩ := R
    have A := R.1.1
    refine pt_q (l_8a (y := a1) S2 (by rw [agR_y A (by decide) (by decide)]; exact hh.1) (by rw [agR_y A (by decide) (by decide)]; exact I.2.2.2.1) (fun c u v => by rw [agR_x A 88 c (by decide) (by decide)]; exact hh.2 c u v) n x1 w2 w3 0 z1 g2 g3 (by rw [agR_y A (by decide) (by decide)]; exact hh.1.1)) ?_
    rintro v h' ⟨x, ev, -, r⟩
    exact ⟨x, ev, Or.inr ⟨e, vw g, R, r⟩⟩
  by_cases hh : (0 ≤ vw h 72 2 ∧ vw h 72 2 ≤ 150) ∧ (∀ c, 0 ≤ c → c < 300 → 0 ≤ vw h 88 c ∧ vw h 88 c < 150)
  · refine pt_q (pt_and (c hh) (wk_288 S z1 I)) ?_
    rintro v h' ⟨⟨x, ev, r⟩, ⟨x', -, -, -, I'⟩⟩
    exact ⟨x, ev, fun _ => r, I'⟩
  · refine pt_q (wk_288 S z1 I) ?_
    rintro v h' ⟨x', ev, -, -, I'⟩
    exact ⟨x', ev, fun z => absurd z hh, I'⟩
def R175 (h : aH) (y r : Int) (h' : aH) : Prop := (¬ (0 ≤ y ∧ y ≤ 9) ∧ r = -1 ∧ h' = h) ∨ ((0 ≤ y ∧ y ≤ 9) ∧ ∃ q g, R1 h y (vw h 1 0) q g ∧ R53 (vw g) q r (vw h'))
theorem c_175w {n : Nat} {X : aX} {h : aH} {x1 : Int32} {a1 : Int} (S : wS h) (z1 : x1.toInt = a1) (I : IV h) : Pt n X zM175 0 [some (.ref 0), some (.int x1)] [] h (qI (fun r h' => R175 h a1 r h' ∧ IV h')) := by
  have c : Pt n X zM175 0 [some (.ref 0), some (.int x1)] [] h (qI (fun r h' => R175 h a1 r h')) := by
    refine pt_d (d175_0 S z1 ⟨fun e => Or.inl ⟨e, rfl, rfl⟩, fun e => ⟨p1_any I a1, fun q g R => ?_⟩⟩)
    have I1 := IV_1 I R.2
    have k := R1_k e (p1_any I a1) (by
      by_cases z : vw h 42 a1 = (q : Int)
      · exact Or.inl (hn_IV I q ⟨a1, e, z.symm⟩)
      · exact Or.inr z) R.2
    exact ⟨⟨⟨R.2.1.1, k.1, k.2.1⟩, I1.1.1.1, I1.1.2.2.2.2.1⟩, fun r h' R2 => Or.inr ⟨e, q, g, R.2, R2.2⟩⟩
  refine pt_q (pt_and c (wk_175 S z1 I)) ?_
  rintro v h' ⟨⟨x, ev, r⟩, ⟨x', -, -, -, I'⟩⟩
  exact ⟨x, ev, r, I'⟩
end
section
-- ===== the least land =====
-- the two ways of seeking the best set agree
def Lx (V : vS) (m a b : Int) : Prop := arN V a m.toNat < arN V b m.toNat ∨ (arN V a m.toNat = arN V b m.toNat ∧ (bcn (tb a) 32 < bcn (tb b) 32 ∨ (bcn (tb a) 32 = bcn (tb b) 32 ∧ a < b)))
theorem best_i {V W : vS} {y m : Int} (hm : 0 ≤ m ∧ m ≤ 10) (ea : ∀ s : Nat, s < 2 ^ m.toNat → arN V (s : Nat) m.toNat = maN W (s : Nat) m.toNat) (ec : ∀ s : Nat, s < 2 ^ m.toNat → (endA V (s : Nat) m ↔ cur W (s : Nat) y)) : ∀ s : Nat, s ≤ 2 ^ m.toNat → (((mBs W y m s).1 = -1 ∧ chF V m s = ((2 ^ m.toNat : Nat) : Int) - 1) ∨ ((0 ≤ (mBs W y m s).1 ∧ (mBs W y m s).1 < (s : Int)) ∧ (mBs W y m s).2 = arN V (mBs W y m s).1 m.toNat ∧ ((Lx V m (mBs W y m s).1 (((2 ^ m.toNat : Nat) : Int) - 1) ∧ chF V m s = (mBs W y m s).1) ∨ (¬ Lx V m (mBs W y m s).1 (((2 ^ m.toNat : Nat) : Int) - 1) ∧ chF V m s = ((2 ^ m.toNat : Nat) : Int) - 1)))) ∧ ∀ u : Nat, u < s → cur W (u : Nat) y → 0 ≤ (mBs W y m s).1 ∧ ¬ Lx V m (u : Nat) (mBs W y m s).1
  | 0, _ => ⟨Or.inl ⟨rfl, rfl⟩, fun u h => absurd h (Nat.not_lt_zero _)⟩
  | s + 1, hs => by
    obtain ⟨I, K⟩ := best_i hm ea ec s (by omega)
    have hlt : s < 2 ^ m.toNat := by omega
    have e := ea s hlt
    have c := ec s hlt
    by_cases cs : cur W (s : Nat) y
    · -- a set that ends all
      have en := c.mpr cs
      by_cases tk : mBp W y m (s : Nat) (mBs W y m s)
      · rw [mBs_t tk]
        obtain ⟨tk, -⟩ := tk
        rw [← e] at tk ⊢
        refine ⟨Or.inr ⟨⟨by omega, by show (s : Int) < ((s + 1 : Nat) : Int); omega⟩, rfl, ?_⟩, fun u hu cu => ⟨by show (0 : Int) ≤ (s : Int); omega, ?_⟩⟩
        · by_cases lf : Lx V m (s : Nat) (((2 ^ m.toNat : Nat) : Int) - 1)
          · refine Or.inl ⟨lf, ?_⟩
            refine chF_t ⟨en, ?_⟩
            unfold isL
            unfold Lx at lf I
            rcases I with ⟨i1, i2⟩ | ⟨i1, i2, ⟨i3, i4⟩ | ⟨i3, i4⟩⟩
            · rw [i2]
              exact lf
            · rw [i4]
              rw [i2] at tk
              omega
            · rw [i4]
              exact lf
          · refine Or.inr ⟨lf, ?_⟩
            unfold Lx at lf I
            rcases I with ⟨i1, i2⟩ | ⟨i1, i2, ⟨i3, i4⟩ | ⟨i3, i4⟩⟩
            · rw [chF_f (fun z => lf (by have := z.2; unfold isL at this; rw [i2] at this; exact this)), i2]
            · exfalso
              rw [i2] at tk
              omega
            · rw [chF_f (fun z => lf (by have := z.2; unfold isL at this; rw [i4] at this; exact this)), i4]
        · show ¬ Lx V m (u : Nat) (s : Nat)
          by_cases z : u = s
          · rw [z]
            unfold Lx
            omega
          · have k := K u (by omega) cu
            rcases I with ⟨i1, i2⟩ | ⟨i1, i2, -⟩
            · omega
            · rw [i2] at tk
              have k2 := k.2
              unfold Lx at k2 ⊢
              omega
      · rw [mBs_f tk]
        have tk2 : ¬ ((mBs W y m s).1 < 0 ∨ maN W (s : Nat) m.toNat < (mBs W y m s).2 ∨ (maN W (s : Nat) m.toNat = (mBs W y m s).2 ∧ bcn (tb (s : Nat)) 32 < bcn (tb (mBs W y m s).1) 32)) := fun z => tk ⟨z, cs⟩
        rw [← e] at tk2
        rcases I with ⟨i1, i2⟩ | ⟨i1, i2, i34⟩
        · omega
        · rw [i2] at tk2
          refine ⟨Or.inr ⟨⟨i1.1, by omega⟩, i2, ?_⟩, fun u hu cu => ?_⟩
          · rcases i34 with ⟨i3, i4⟩ | ⟨i3, i4⟩
            · refine Or.inl ⟨i3, ?_⟩
              rw [chF_f (fun z => ?_), i4]
              have := z.2
              unfold isL at this
              rw [i4] at this
              omega
            · refine Or.inr ⟨i3, ?_⟩
              rw [chF_f (fun z => ?_), i4]
              have := z.2
              unfold isL at this
              rw [i4] at this
              unfold Lx at i3
              omega
          · by_cases z : u = s
            · rw [z]
              refine ⟨i1.1, ?_⟩
              unfold Lx
              omega
            · exact K u (by omega) cu
    · rw [mBs_f (fun z => cs z.2), chF_f (fun z => cs (c.mp z.1))]
      refine ⟨?_, fun u hu cu => ?_⟩
      · rcases I with I | ⟨i1, i2⟩
        · exact Or.inl I
        · exact Or.inr ⟨⟨i1.1, by omega⟩, i2⟩
      · by_cases z : u = s
        · rw [z] at cu
          exact absurd cu cs
        · exact K u (by omega) cu
theorem full_b : ∀ m : Fin 11, ∀ i : Fin 10, i.val < m.val → bAnd (bShr (((2 ^ m.val : Nat) : Int) - 1) (i.val : Int)) 1 = 1 := by decide +kernel
theorem b01k1 : ∀ s : Fin 1024, ∀ i : Fin 10, bAnd (bShr (s.val : Int) (i.val : Int)) 1 = if tb (s.val : Int) i.val then 1 else 0 := by decide +kernel
theorem b01k2 {s i : Nat} (hs : s < 1024) (hi : i < 10) : bAnd (bShr (s : Int) (i : Int)) 1 = if tb (s : Int) i then 1 else 0 := b01k1 ⟨s, hs⟩ ⟨i, hi⟩
theorem best_e {V W : vS} {y m : Int} (hm : 0 ≤ m ∧ m ≤ 10) (ea : ∀ s : Nat, s < 2 ^ m.toNat → arN V (s : Nat) m.toNat = maN W (s : Nat) m.toNat) (ec : ∀ s : Nat, s < 2 ^ m.toNat → (endA V (s : Nat) m ↔ cur W (s : Nat) y)) : (0 ≤ chF V m (2 ^ m.toNat) ∧ chF V m (2 ^ m.toNat) < ((2 ^ m.toNat : Nat) : Int)) ∧ chF V m (2 ^ m.toNat) = (mBs W y m (2 ^ m.toNat)).1 ∧ arN V (chF V m (2 ^ m.toNat)) m.toNat = (mBs W y m (2 ^ m.toNat)).2 := by
  obtain ⟨I, K⟩ := best_i hm ea ec (2 ^ m.toNat) (Nat.le_refl _)
  have pb := p2_b hm
  obtain ⟨f, ef⟩ : ∃ f : Nat, ((2 ^ m.toNat : Nat) : Int) - 1 = (f : Int) := ⟨2 ^ m.toNat - 1, by omega⟩
  have cF : cur W (f : Nat) y := by
    refine (ec f (by omega)).mp (fun i i0 i1 z => ?_)
    have := full_b ⟨m.toNat, by omega⟩ ⟨i.toNat, by omega⟩ (show i.toNat < m.toNat by omega)
    rw [show (((⟨i.toNat, by omega⟩ : Fin 10).val : Nat) : Int) = i by show ((i.toNat : Nat) : Int) = i; omega] at this
    have this : bAnd (bShr (((2 ^ m.toNat : Nat) : Int) - 1) i) 1 = 1 := this
    rw [ef, z] at this
    cases this
  have k := K f (by omega) cF
  refine ⟨chF_b hm _ (Nat.le_refl _), ?_⟩
  rcases I with ⟨i1, -⟩ | ⟨i1, i2, ⟨i3, i4⟩ | ⟨i3, i4⟩⟩
  · omega
  · exact ⟨i4, by rw [i4, i2]⟩
  · have k2 := k.2
    rw [ef] at i3 i4
    unfold Lx at i3 k2
    have e : (mBs W y m (2 ^ m.toNat)).1 = (f : Int) := by omega
    exact ⟨by rw [i4, e], by rw [i4, i2, e]⟩
end
section
-- ===== the least land =====
theorem bA_ne {a b : Int} : bAnd a b ≠ 0 ↔ ∃ x, x < 32 ∧ tb a x = true ∧ tb b x = true := by
  constructor
  · intro h
    by_cases z : ∃ x, x < 32 ∧ tb a x = true ∧ tb b x = true
    · exact z
    · refine absurd ?_ h
      have e : ∀ x, x < 32 → tb (Int32.ofInt a &&& Int32.ofInt b).toInt x = tb (0 : Int32).toInt x := fun x hx => by
        have l : tb (bAnd a b) x = tb 0 x := by
          rw [tb_and, tb_0 hx]
          cases ea : tb a x with
          | false => rfl
          | true =>
            cases eb : tb b x with
            | false => rfl
            | true => exact absurd ⟨x, hx, ea, eb⟩ z
        exact l
      have := tb_ext e
      exact this
  · rintro ⟨x, hx, h1, h2⟩ z
    have l : tb (bAnd a b) x = true := by rw [tb_and, h1, h2]; rfl
    rw [z, tb_0 hx] at l
    cases l
theorem rkd_m {V V1 W : vS} {k : Int} (x : ∀ (c : Nat) j, 72 ≤ c → c ≤ 110 → V1 c j = V c j) (RR : R239 V1 k W) : rkd V W k := by
  obtain ⟨⟨a, b, c⟩, d, e⟩ := rkd_R RR
  have M : agM V V1 := ⟨fun c j u v => x c j (by omega) (by omega), x 72 _ (by decide) (by decide), x 72 _ (by decide) (by decide), x 72 _ (by decide) (by decide)⟩
  refine ⟨⟨a.trans (x 72 19 (by decide) (by decide)), fun i => (b i).trans (x 87 i (by decide) (by decide)), fun i => (c i).trans (x 90 i (by decide) (by decide))⟩, fun i u v => ?_, fun i u v mc y0 y1 => ?_⟩
  · rw [d i u (by rw [x 72 19 (by decide) (by decide)]; exact v)]
    exact bI_c (mcn_m M i _)
  · have r := e i u (by rw [x 72 19 (by decide) (by decide)]; exact v) ((mcn_m M i _).mpr mc) (by rw [x 90 i (by decide) (by decide)]; exact y0) (by rw [x 90 i (by decide) (by decide)]; exact y1)
    exact ⟨r.1.trans (vG_m M _ i), r.2.trans (vF_m M _ i)⟩
theorem inY_e {V W : vS} {k y : Int} (R : rkd V W k) {c : Int} (c0 : 0 ≤ c) (cN : c < V 72 19) : inY W y c ↔ LkM V k y c := by
  unfold inY LkM
  rw [R.1.2.2 c, R.2.1 c c0 cN]
  refine and_congr_left (fun _ => ?_)
  by_cases z : mcn V c k
  · rw [bI_t z]
    exact ⟨fun _ => z, fun _ => by decide⟩
  · rw [bI_f z]
    exact ⟨fun w => absurd rfl w, fun w => absurd w z⟩
theorem nQ_pos {R : Int → Prop} {n : Nat} : 0 < nQ R n ↔ ∃ j : Nat, j < n ∧ R (j : Nat) := by
  constructor
  · intro h
    obtain ⟨b, b1, b2, -⟩ := nQ_inv (R := R) (Int.le_refl 0) n h
    exact ⟨b, b1, b2⟩
  · rintro ⟨j, hj, r⟩
    have := nQ_lt (R := R) hj r
    have := nQ_b R j
    omega
-- a square of two claims' fields: the rows meet
theorem meet_q {V : vS} (E : EQ V) (R : JR24 V) (c o : Int) : cMt V (V 18 c) (V 18 o) ↔ ∃ q, (0 ≤ q ∧ q < 576) ∧ InM V c q ∧ InM V o q := by
  constructor
  · rintro ⟨y, hy, h⟩
    obtain ⟨x, hx, h1, h2⟩ := bA_ne.mp h
    have x24 : x < 24 := by
      by_cases z : x < 24
      · exact z
      · rw [tb_hi (R _).1 (R _).2 (by omega)] at h1
        cases h1
    exact ⟨24 * y + (x : Int), ⟨by omega, by omega⟩, (in_b E hy x24).mpr h1, (in_b E hy x24).mpr h2⟩
  · rintro ⟨q, hq, h1, h2⟩
    have hy : 0 ≤ q / 24 ∧ q / 24 < 24 := by omega
    have hx : (q % 24).toNat < 24 := by omega
    have e : q = 24 * (q / 24) + (((q % 24).toNat : Nat) : Int) := by omega
    rw [e] at h1 h2
    exact ⟨q / 24, hy, bA_ne.mpr ⟨(q % 24).toNat, by omega, (in_b E hy hx).mp h1, (in_b E hy hx).mp h2⟩⟩
theorem mMt_e {V W : vS} (Rw : ∀ j, V 8 j = V 80 j) (e : ∀ j, W 80 j = V 80 j) (a b : Int) : mMt W a b ↔ cMt V a b := by
  unfold mMt cMt
  simp only [e, ← Rw]
section LST
variable {V W : vS} {q : Nat} {y k : Int}
theorem li_l (E : EQ V) (L : lis V q y k) {i : Int} (i0 : 0 ≤ i) (iN : i < V q 5) : (0 ≤ V (q + 1) i ∧ V (q + 1) i < V 72 19) ∧ LkM V k y (V (q + 1) i) := by
  obtain ⟨C, B, Od, hd, -⟩ := E
  obtain ⟨p, pN, zc, ci, e⟩ := li_s L i0 iN
  have m0 := Od.1 (p : Nat) (by omega) pN
  have l0 := (cnt_l C B Od hd (by omega) pN).mp zc
  rw [← e] at m0 l0
  exact ⟨⟨m0.1, by rw [← C.1]; exact m0.2⟩, l0⟩
theorem li_cl (E : EQ V) (L : lis V q y k) {c : Int} (n : 0 ≤ c ∧ c < V 72 19) (l : LkM V k y c) : ∃ i, (0 ≤ i ∧ i < V q 5) ∧ V (q + 1) i = c := by
  obtain ⟨C, B, Od, hd, -⟩ := E
  obtain ⟨p, pN, z, e, lt, s⟩ := li_m C B Od hd L n.1 n.2 l
  exact ⟨_, ⟨by omega, lt⟩, s⟩
theorem mTr_e (A : AP V) (R : rkd V W k) (e8 : ∀ c, W 88 c = V 88 c) (e80 : ∀ j, W 80 j = V 80 j) (c o : Int) : mTr W c o ↔ V 17 c ≠ V 17 o ∧ cMt V (V 18 c) (V 18 o) := by
  have C := A.1.1
  unfold mTr
  rw [R.1.2.1, R.1.2.1, e8, e8, mMt_e A.1.2.2.2.2.1 e80, ← C.2.1, ← C.2.1, ← C.2.2.1, ← C.2.2.1]
theorem cMt_y {a b : Int} : cMt V a b ↔ cMt V b a := by
  have f : ∀ a b, cMt V a b → cMt V b a := fun a b ⟨y, hy, h⟩ => by
    obtain ⟨x, hx, h1, h2⟩ := bA_ne.mp h
    exact ⟨y, hy, bA_ne.mpr ⟨x, hx, h2, h1⟩⟩
  exact ⟨f a b, f b a⟩
theorem TR_e (A : AP V) (S : scK V q y k) (F : JCf V) (R : rkd V W k) (e8 : ∀ c, W 88 c = V 88 c) (e80 : ∀ j, W 80 j = V 80 j) (em : ∀ b, mField W b ↔ mField V b) (b : Int) : TR V q b ↔ TM W y b := by
  have E := A.1
  have C := A.1.1
  have B := A.1.2.1
  have R24 := A.2.2.2.1.2.2
  obtain ⟨-, L, -, fl, -⟩ := S
  unfold TR TM
  rw [em b, ← field_j B]
  refine and_congr_right (fun _ => ?_)
  constructor
  · rintro ⟨⟨i, hi, eb⟩, sq⟩
    obtain ⟨n0, l0⟩ := li_l E L hi.1 hi.2
    rw [← eb, bad_e E L R24 fl (c := V (q + 1) i) 24 (Nat.le_refl _)] at sq
    obtain ⟨j, hj, ⟨in0, c1, c2, ⟨n1, l1, i1⟩, ⟨n2, l2, i2⟩, ne⟩⟩ := nQ_pos.mp sq
    have hj : (0 : Int) ≤ (j : Int) ∧ (j : Int) < 576 := by omega
    have give : ∀ o, (0 ≤ o ∧ o < V 72 19) → LkM V k y o → InM V o (j : Nat) → V 87 o ≠ V 87 (V (q + 1) i) → hasT W b y := fun o no lo io nf => by
      refine ⟨V (q + 1) i, o, by rw [R.1.1]; exact ⟨n0, no⟩, ⟨(inY_e R n0.1 n0.2).mpr l0, by rw [e8, ← C.2.2.1]; exact eb⟩, (inY_e R no.1 no.2).mpr lo, (mTr_e A R e8 e80 _ _).mpr ⟨?_, (meet_q E R24 _ _).mpr ⟨(j : Nat), hj, in0, io⟩⟩⟩
      rw [C.2.1, C.2.1]
      exact fun w => nf w.symm
    by_cases z : V 87 c1 = V 87 (V (q + 1) i)
    · exact give c2 n2 l2 i2 (fun w => ne (z.trans w.symm))
    · exact give c1 n1 l1 i1 z
  · rintro ⟨c, o, ⟨nc, no⟩, ⟨yc, eb⟩, yo, tr⟩
    rw [R.1.1] at nc no
    have lc := (inY_e R nc.1 nc.2).mp yc
    have lo := (inY_e R no.1 no.2).mp yo
    obtain ⟨nf, mt⟩ := (mTr_e A R e8 e80 _ _).mp tr
    rw [e8, ← C.2.2.1] at eb
    obtain ⟨i, hi, ei⟩ := li_cl E L nc lc
    refine ⟨⟨i, hi, by rw [ei]; exact eb⟩, ?_⟩
    rw [← eb, bad_e E L R24 fl (c := c) 24 (Nat.le_refl _)]
    obtain ⟨p, hp, p1, p2⟩ := (meet_q E R24 _ _).mp mt
    refine nQ_pos.mpr ⟨p.toNat, by omega, ?_⟩
    rw [show ((p.toNat : Nat) : Int) = p by omega]
    refine ⟨p1, c, o, ⟨nc, lc, p1⟩, ⟨no, lo, p2⟩, ?_⟩
    rw [← C.2.1, ← C.2.1]
    exact nf
theorem two_e (E : EQ V) (L : lis V q y k) (a b : Int) : two V q a b ↔ ∃ c o, ((0 ≤ c ∧ c < V 72 19) ∧ LkM V k y c ∧ V 18 c = a) ∧ ((0 ≤ o ∧ o < V 72 19) ∧ LkM V k y o ∧ V 18 o = b) ∧ V 17 o ≠ V 17 c := by
  constructor
  · rintro ⟨i, j, ⟨hi, hj⟩, ea, eb, ne⟩
    have x := li_l E L hi.1 hi.2
    have z := li_l E L hj.1 hj.2
    exact ⟨_, _, ⟨x.1, x.2, ea⟩, ⟨z.1, z.2, eb⟩, ne⟩
  · rintro ⟨c, o, ⟨nc, lc, ea⟩, ⟨no, lo, eb⟩, ne⟩
    obtain ⟨i, hi, ei⟩ := li_cl E L nc lc
    obtain ⟨j, hj, ej⟩ := li_cl E L no lo
    exact ⟨i, j, ⟨hi, hj⟩, by rw [ei]; exact ea, by rw [ej]; exact eb, by rw [ei, ej]; exact ne⟩
end LST
end
section
-- ===== the least land =====
-- what the class's and the reference's lists of fields in trouble make of a set
theorem set_e {V W U X : vS} {q : Nat} {y k m : Int} (A : AP V) (S : scK V q y k) (F : JCf V) (R : rkd V W k) (e8 : ∀ c, W 88 c = V 88 c) (e80 : ∀ j, W 80 j = V 80 j) (em : ∀ b, mField W b ↔ mField V b) (hm : m = nQ (TR V q) (V 1 1).toNat) (m10 : m ≤ 10)
    (u50 : ∀ b : Nat, (b : Int) < V 1 1 → TR V q (b : Nat) → U 50 (nQ (TR V q) b) = (b : Nat)) (u51 : ∀ i, 0 ≤ i → i < m → U 51 i = nbS (fun j => cMt V (U 50 i) (U 50 j) ∧ two V q (U 50 i) (U 50 j)) m.toNat)
    (xw : ∀ (c : Nat) j, c ≠ 72 → c ≠ 132 → X c j = W c j) (x19 : X 72 19 = W 72 19) (x79 : X 72 79 = m) (x132 : ∀ i, 0 ≤ i → i < m → X 132 i = U 50 i) {s : Nat} (hs : s < 2 ^ m.toNat) : endA U (s : Nat) m ↔ cur X (s : Nat) y := by
  have E := A.1
  have C := A.1.1
  have B := A.1.2.1
  have m0 := nQ_b (TR V q) (V 1 1).toNat
  rw [← hm] at m0
  have b0 := B.2.2.2.2.2.1
  have b1 := B.2.2.2.2.2.2.1
  have p2 : 2 ^ m.toNat ≤ 1024 := by
    have := p2_b (m := m) ⟨m0.1, m10⟩
    omega
  have hs' : s < 1024 := by omega
  have S0 := S
  obtain ⟨-, L, -⟩ := S
  -- the list's entries
  have ent : ∀ i, 0 ≤ i → i < m → ∃ b : Nat, (b : Int) < V 1 1 ∧ TR V q (b : Nat) ∧ nQ (TR V q) b = i ∧ U 50 i = (b : Nat) := fun i i0 i1 => by
    obtain ⟨b, h1, h2, h3⟩ := nQ_inv (R := TR V q) i0 (V 1 1).toNat (by rw [← hm]; exact i1)
    refine ⟨b, by omega, h2, h3, ?_⟩
    rw [← h3]
    exact u50 b (by omega) h2
  have inj : ∀ i j, 0 ≤ i → i < m → 0 ≤ j → j < m → U 50 i = U 50 j → i = j := fun i j i0 i1 j0 j1 e => by
    obtain ⟨b, -, -, h3, h4⟩ := ent i i0 i1
    obtain ⟨b', -, -, h3', h4'⟩ := ent j j0 j1
    have : b = b' := by omega
    rw [← h3, ← h3', this]
  have plc : ∀ b, (0 ≤ b ∧ b < V 1 1) → TR V q b → ∃ i, (0 ≤ i ∧ i < m) ∧ U 50 i = b := fun b hb t => by
    obtain ⟨n, rfl⟩ : ∃ n : Nat, b = (n : Int) := ⟨b.toNat, by omega⟩
    have lt := nQ_lt (R := TR V q) (show n < (V 1 1).toNat by omega) t
    have g := nQ_b (TR V q) n
    exact ⟨nQ (TR V q) n, ⟨g.1, by rw [hm]; exact lt⟩, u50 n hb.2 t⟩
  have bit : ∀ i, 0 ≤ i → i < m → (bAnd (bShr (s : Int) i) 1 = 1 ↔ tb (s : Int) i.toNat = true) ∧ (bAnd (bShr (s : Int) i) 1 = 0 ↔ ¬ tb (s : Int) i.toNat = true) := fun i i0 i1 => by
    obtain ⟨n, rfl⟩ : ∃ n : Nat, i = (n : Int) := ⟨i.toNat, by omega⟩
    rw [b01k2 hs' (show n < 10 by omega), Int.toNat_natCast]
    cases tb (s : Int) n with
    | true => exact ⟨⟨fun _ => rfl, fun _ => rfl⟩, ⟨fun z => absurd z (by decide), fun z => absurd rfl z⟩⟩
    | false => exact ⟨⟨fun z => absurd z (by decide), fun z => by cases z⟩, ⟨fun _ z => (by cases z), fun _ => rfl⟩⟩
  have aw : ∀ b, isAw X b (s : Nat) ↔ ∃ i, (0 ≤ i ∧ i < m) ∧ tb (s : Int) i.toNat = true ∧ U 50 i = b := fun b => by
    unfold isAw
    rw [x79]
    constructor
    · rintro ⟨i, hi, h1, h2⟩
      rw [x132 i hi.1 hi.2] at h2
      exact ⟨i, hi, (bit i hi.1 hi.2).1.mp h1, h2⟩
    · rintro ⟨i, hi, h1, h2⟩
      exact ⟨i, hi, (bit i hi.1 hi.2).1.mpr h1, by rw [x132 i hi.1 hi.2]; exact h2⟩
  have en : endA U (s : Nat) m ↔ ∀ i, 0 ≤ i → i < m → ¬ tb (s : Int) i.toNat = true → ∀ j, 0 ≤ j → j < m → cMt V (U 50 i) (U 50 j) → two V q (U 50 i) (U 50 j) → tb (s : Int) j.toNat = true := by
    constructor
    · intro h i i0 i1 z j j0 j1 mt tw
      have g := h i i0 i1 ((bit i i0 i1).2.mpr z)
      by_cases w : tb (s : Int) j.toNat = true
      · exact w
      · refine absurd g (bA_ne.mpr ⟨j.toNat, by omega, ?_, ?_⟩)
        · rw [u51 i i0 i1, nbS_b (by omega) m.toNat (by omega)]
          rw [show ((j.toNat : Nat) : Int) = j by omega]
          exact ⟨by omega, mt, tw⟩
        · rw [tb_not _ (by omega)]
          cases hh : tb (s : Int) j.toNat with
          | true => exact absurd hh w
          | false => rfl
    · intro h i i0 i1 z
      by_cases w : bAnd (U 51 i) (bXor (s : Int) (-1)) = 0
      · exact w
      · obtain ⟨x, hx, h1, h2⟩ := bA_ne.mp w
        rw [u51 i i0 i1, nbS_b hx m.toNat (by omega)] at h1
        rw [tb_not _ hx] at h2
        have g := h i i0 i1 ((bit i i0 i1).2.mp z) (x : Nat) (by omega) (by omega) h1.2.1 h1.2.2
        rw [Int.toNat_natCast] at g
        rw [g] at h2
        cases h2
  have iy : ∀ c, inY X y c ↔ inY W y c := fun c => by
    unfold inY
    rw [xw 103 c (by decide) (by decide), xw 90 c (by decide) (by decide)]
  have tr : ∀ c o, mTr X c o ↔ V 17 c ≠ V 17 o ∧ cMt V (V 18 c) (V 18 o) := fun c o => by
    rw [← mTr_e A R e8 e80]
    unfold mTr
    rw [xw 87 c (by decide) (by decide), xw 87 o (by decide) (by decide), xw 88 c (by decide) (by decide), xw 88 o (by decide) (by decide), mMt_w (fun j => xw 80 j (by decide) (by decide))]
  have f88 : ∀ c, X 88 c = V 18 c := fun c => by rw [xw 88 c (by decide) (by decide), e8, ← C.2.2.1]
  have fld : ∀ c o, ((0 ≤ c ∧ c < V 72 19) ∧ LkM V k y c) → ((0 ≤ o ∧ o < V 72 19) ∧ LkM V k y o) → V 17 c ≠ V 17 o → cMt V (V 18 c) (V 18 o) → ∃ i, (0 ≤ i ∧ i < m) ∧ U 50 i = V 18 c := fun c o hc ho nf mt => by
    have cf := (F.2 c hc.1.1 (by rw [C.1]; exact hc.1.2)).2
    have hb := hF_of B _ cf
    have hb2 : V 18 c < V 1 1 := by
      have := cf.1.2
      rw [w32_id (by omega) (by omega)] at this
      omega
    refine plc (V 18 c) ⟨hb.1, hb2⟩ ((TR_e A S0 F R e8 e80 em (V 18 c)).mpr ⟨?_, ?_⟩)
    · rw [em, ← field_j B]
      exact cf
    · exact ⟨c, o, by rw [R.1.1]; exact ⟨hc.1, ho.1⟩, ⟨(inY_e R hc.1.1 hc.1.2).mpr hc.2, by rw [e8, ← C.2.2.1]⟩, (inY_e R ho.1.1 ho.1.2).mpr ho.2, (mTr_e A R e8 e80 _ _).mpr ⟨nf, mt⟩⟩
  rw [en]
  unfold cur
  rw [x19, R.1.1]
  constructor
  · intro h c o c0 co oN hc ho t
    rw [iy, f88, aw] at hc ho
    obtain ⟨nf, mt⟩ := (tr c o).mp t
    have lc := (inY_e R c0 (by omega)).mp hc.1
    have lo := (inY_e R (by omega) oN).mp ho.1
    obtain ⟨i, hi, ei⟩ := fld c o ⟨⟨c0, by omega⟩, lc⟩ ⟨⟨by omega, oN⟩, lo⟩ nf mt
    obtain ⟨j, hj, ej⟩ := fld o c ⟨⟨by omega, oN⟩, lo⟩ ⟨⟨c0, by omega⟩, lc⟩ (fun w => nf w.symm) (cMt_y.mp mt)
    have ni : ¬ tb (s : Int) i.toNat = true := fun w => hc.2 ⟨i, hi, w, ei⟩
    have nj : ¬ tb (s : Int) j.toNat = true := fun w => ho.2 ⟨j, hj, w, ej⟩
    refine nj (h i hi.1 hi.2 ni j hj.1 hj.2 (by rw [ei, ej]; exact mt) ?_)
    rw [ei, ej, two_e E L]
    exact ⟨c, o, ⟨⟨c0, by omega⟩, lc, rfl⟩, ⟨⟨by omega, oN⟩, lo, rfl⟩, fun w => nf w.symm⟩
  · intro h i i0 i1 ni j j0 j1 mt tw
    by_cases w : tb (s : Int) j.toNat = true
    · exact w
    · exfalso
      obtain ⟨c, o, ⟨nc, lc, ec⟩, ⟨no, lo, eo⟩, nf⟩ := (two_e E L _ _).mp tw
      have hc : inY X y c ∧ ¬ isAw X (X 88 c) (s : Nat) := by
        refine ⟨(iy c).mpr ((inY_e R nc.1 nc.2).mpr lc), fun a => ?_⟩
        rw [f88, aw] at a
        obtain ⟨i', hi', t, e⟩ := a
        have := inj i' i hi'.1 hi'.2 i0 i1 (e.trans ec)
        rw [this] at t
        exact ni t
      have ho : inY X y o ∧ ¬ isAw X (X 88 o) (s : Nat) := by
        refine ⟨(iy o).mpr ((inY_e R no.1 no.2).mpr lo), fun a => ?_⟩
        rw [f88, aw] at a
        obtain ⟨i', hi', t, e⟩ := a
        have := inj i' j hi'.1 hi'.2 j0 j1 (e.trans eo)
        rw [this] at t
        exact w t
      rcases Int.lt_trichotomy c o with z | z | z
      · exact h c o nc.1 z no.2 hc ho ((tr c o).mpr ⟨fun w => nf w.symm, by rw [ec, eo]; exact mt⟩)
      · rw [z] at nf
        exact nf rfl
      · exact h o c no.1 z nc.2 ho hc ((tr o c).mpr ⟨nf, by rw [ec, eo]; exact cMt_y.mp mt⟩)
end

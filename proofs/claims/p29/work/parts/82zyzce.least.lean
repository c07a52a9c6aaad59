-- ===== the least land =====
theorem d283_0 {n : Nat} {X : aX} {h : aH} {P : Int → aH → Prop} {x1 x2 : Int32} {a1 a2 : Int} (S : wS h) (z1 : x1.toInt = a1) (z2 : x2.toInt = a2) (H : (0 ≤ a1 → a1 < 300 → (0 ≤ a2 → a2 < 300 → ((vw h 87 a1 = vw h 87 a2 → P 0 h) ∧ (vw h 87 a1 ≠ vw h 87 a2 → (((0 ≤ vw h 88 a1 ∧ vw h 88 a1 < 150) ∧ 0 ≤ vw h 88 a2 ∧ vw h 88 a2 < 150) ∧ ((¬ (mMt (vw h) (vw h 88 a1) (vw h 88 a2)) → P 0 h) ∧ ((mMt (vw h) (vw h 88 a1) (vw h 88 a2)) → P 1 h)))))))) : Pt (n + 1) X zM283 0 [some (.ref 72), some (.int x1), some (.int x2)] [] h (qI P) := by
  refine pt_1 (fun n d => r_aloadn gx283_0 rfl) ?_
  refine pt_d (pt_getR gx283_1 S tr_72_20 ?_)
  refine pt_d (pt_1 (fun n d => r_iloadn gx283_4 rfl) ?_)
  refine pt_d (pt_iald (N' := 300) gx283_5 S tl_87 z1 (fun v2 p2 q2 h2 => ?_))
  have H := H p2 q2
  refine pt_d (pt_1 (fun n d => r_aloadn gx283_6 rfl) ?_)
  refine pt_d (pt_getR gx283_7 S tr_72_20 ?_)
  refine pt_d (pt_1 (fun n d => r_iloadn gx283_10 rfl) ?_)
  refine pt_d (pt_iald (N' := 300) gx283_11 S tl_87 z2 (fun v4 p4 q4 h4 => ?_))
  have H := H p4 q4
  refine pt_d (pt_icmp_eq gx283_12 h2 h4 (fun e5 => ?_) (fun e5 => ?_))
  · have H := H.1 e5
    refine pt_d (pt_iconst gx283_38 (fun v6 h6 => ?_))
    exact pt_d (pt_iret gx283_39 ⟨_, rfl, by rw [h6]; exact H⟩)
  · have H := H.2 e5
    refine pt_d (pt_1 (fun n d => r_aloadn gx283_15 rfl) ?_)
    refine pt_d (pt_1 (fun n d => r_aloadn gx283_16 rfl) ?_)
    refine pt_d (pt_getR gx283_17 S tr_72_21 ?_)
    refine pt_d (pt_1 (fun n d => r_iloadn gx283_20 rfl) ?_)
    refine pt_d (pt_iald (N' := 300) gx283_21 S tl_88 z1 (fun v8 p8 q8 h8 => ?_))
    refine pt_d (pt_1 (fun n d => r_aloadn gx283_22 rfl) ?_)
    refine pt_d (pt_getR gx283_23 S tr_72_21 ?_)
    refine pt_d (pt_1 (fun n d => r_iloadn gx283_26 rfl) ?_)
    refine pt_d (pt_iald (N' := 300) gx283_27 S tl_88 z2 (fun v10 p10 q10 h10 => ?_))
    obtain ⟨pr11, H⟩ := H
    refine pt_d (pt_virt (as := [.int v8, .int v10]) (r := []) gx283_28 rfl (show zmt[282]? = some zM282 from rfl) rfl rfl rfl rfl (c_282 S h8 h10 pr11) (kqP (fun v11 h11 => ?_)))
    show Pt _ _ _ 31 _ [.int v11] _ _
    refine pt_d (pt_ifB_eq gx283_31 h11 (fun e12 => ?_) (fun e12 => ?_))
    · have H := H.1 e12
      refine pt_d (pt_iconst gx283_38 (fun v13 h13 => ?_))
      exact pt_d (pt_iret gx283_39 ⟨_, rfl, by rw [h13]; exact H⟩)
    · have H := H.2 e12
      refine pt_d (pt_iconst gx283_34 (fun v14 h14 => ?_))
      refine pt_d (pt_1 (fun n d => r_goto gx283_35) ?_)
      exact pt_d (pt_iret gx283_39 ⟨_, rfl, by rw [h14]; exact H⟩)
def mTr (V : vS) (c o : Int) : Prop := V 87 c ≠ V 87 o ∧ mMt V (V 88 c) (V 88 o)
def inY (V : vS) (y c : Int) : Prop := V 103 c ≠ 0 ∧ iDiv (V 90 c) 365 = y
theorem c_283 {n : Nat} {X : aX} {h : aH} {x1 x2 : Int32} {a1 a2 : Int} (S : wS h) (z1 : x1.toInt = a1) (z2 : x2.toInt = a2) (hp : ∀ c, 0 ≤ c → c < 300 → 0 ≤ vw h 88 c ∧ vw h 88 c < 150) : Pt n X zM283 0 [some (.ref 72), some (.int x1), some (.int x2)] [] h (qI (fun r h' => h' = h ∧ r = bI (mTr (vw h) a1 a2))) :=
  pt_d (d283_0 S z1 z2 (fun p q p2 q2 => ⟨fun e => ⟨rfl, (bI_f (fun z => z.1 e)).symm⟩, fun e => ⟨⟨hp _ p q, hp _ p2 q2⟩, fun z => ⟨rfl, (bI_f (fun y => z y.2)).symm⟩, fun z => ⟨rfl, (bI_t ⟨e, z⟩).symm⟩⟩⟩))

theorem d284_0 {n : Nat} {X : aX} {h : aH} {P : Int → aH → Prop} {x1 x2 : Int32} {a1 a2 : Int} (S : wS h) (z1 : x1.toInt = a1) (z2 : x2.toInt = a2) (H : (∀ (w3 : Int32) (u4_ : Option Value), w3.toInt = 0 → Pt n X zM284 2 [some (.ref 72), some (.int x1), some (.int x2), some (.int w3), u4_] [] h (qI P))) : Pt (n + 1) X zM284 0 [some (.ref 72), some (.int x1), some (.int x2), none, none] [] h (qI P) := by
  refine pt_iconst gx284_0 (fun v1 h1 => ?_)
  refine pt_d (pt_1 (fun n d => r_istoren (L' := [some (.ref 72), some (.int x1), some (.int x2), some (.int v1), none]) gx284_1 rfl rfl) ?_)
  exact H v1 _ h1
theorem d284_2 {n : Nat} {X : aX} {h : aH} {P : Int → aH → Prop} {x1 x2 x3 : Int32} {a1 a2 a3 : Int} {u4 : Option Value} (S : wS h) (z1 : x1.toInt = a1) (z2 : x2.toInt = a2) (z3 : x3.toInt = a3) (H : ((vw h 72 19 ≤ a3 → P 0 h) ∧ (a3 < vw h 72 19 → (0 ≤ a3 → a3 < 300 → ((vw h 103 a3 = 0 → (∀ (w3 : Int32) (u4_ : Option Value), w3.toInt = w32 (a3 + 1) → Pt n X zM284 2 [some (.ref 72), some (.int x1), some (.int x2), some (.int w3), u4_] [] h (qI P))) ∧ (vw h 103 a3 ≠ 0 → ((iDiv ((vw h) 90 a3) 365 ≠ a2 → (∀ (w3 : Int32) (u4_ : Option Value), w3.toInt = w32 (a3 + 1) → Pt n X zM284 2 [some (.ref 72), some (.int x1), some (.int x2), some (.int w3), u4_] [] h (qI P))) ∧ (iDiv ((vw h) 90 a3) 365 = a2 → ((vw h 88 a3 = a1 → (∀ (w4 : Int32), w4.toInt = 0 → Pt n X zM284 44 [some (.ref 72), some (.int x1), some (.int x2), some (.int x3), some (.int w4)] [] h (qI P))) ∧ (vw h 88 a3 ≠ a1 → (∀ (w3 : Int32) (u4_ : Option Value), w3.toInt = w32 (a3 + 1) → Pt n X zM284 2 [some (.ref 72), some (.int x1), some (.int x2), some (.int w3), u4_] [] h (qI P)))))))))))) : Pt (n + 1) X zM284 2 [some (.ref 72), some (.int x1), some (.int x2), some (.int x3), u4] [] h (qI P) := by
  refine pt_1 (fun n d => r_iloadn gx284_2 rfl) ?_
  refine pt_d (pt_1 (fun n d => r_aloadn gx284_3 rfl) ?_)
  refine pt_d (pt_getI (B := 19) gx284_4 S (fun v1 h1 => ?_))
  refine pt_d (pt_icmp_ge gx284_7 z3 h1 (fun e2 => ?_) (fun e2 => ?_))
  · have H := H.1 e2
    refine pt_d (pt_iconst gx284_97 (fun v3 h3 => ?_))
    exact pt_d (pt_iret gx284_98 ⟨_, rfl, by rw [h3]; exact H⟩)
  · have H := H.2 e2
    refine pt_d (pt_1 (fun n d => r_aloadn gx284_10 rfl) ?_)
    refine pt_d (pt_getR gx284_11 S tr_72_40 ?_)
    refine pt_d (pt_1 (fun n d => r_iloadn gx284_14 rfl) ?_)
    refine pt_d (pt_zald (N' := 300) gx284_15 S tl_103 z3 (fun v5 p5 q5 h5 => ?_))
    have H := H p5 q5
    refine pt_d (pt_if_eq gx284_16 h5 (fun e6 => ?_) (fun e6 => ?_))
    · have H := H.1 e6
      refine pt_d (pt_iinc (c := 1) gx284_91 rfl z3 (fun v7 h7 => ?_))
      show Pt _ _ _ _ [some (.ref 72), some (.int x1), some (.int x2), some (.int v7), u4] [] _ _
      refine pt_d (pt_1 (fun n d => r_goto gx284_94) ?_)
      exact H v7 _ h7
    · have H := H.2 e6
      refine pt_d (pt_1 (fun n d => r_aloadn gx284_19 rfl) ?_)
      refine pt_d (pt_1 (fun n d => r_iloadn gx284_20 rfl) ?_)
      refine pt_d (pt_virt (as := [.int x3]) (r := []) gx284_21 rfl (show zmt[229]? = some zM229 from rfl) rfl rfl rfl rfl (c_229 S z3) (kqP (fun v8 h8 => ?_)))
      show Pt _ _ _ 24 _ [.int v8] _ _
      refine pt_d (pt_1 (fun n d => r_iloadn gx284_24 rfl) ?_)
      refine pt_d (pt_icmp_ne gx284_25 h8 z2 (fun e9 => ?_) (fun e9 => ?_))
      · have H := H.1 e9
        refine pt_d (pt_iinc (c := 1) gx284_91 rfl z3 (fun v10 h10 => ?_))
        show Pt _ _ _ _ [some (.ref 72), some (.int x1), some (.int x2), some (.int v10), u4] [] _ _
        refine pt_d (pt_1 (fun n d => r_goto gx284_94) ?_)
        exact H v10 _ h10
      · have H := H.2 e9
        refine pt_d (pt_1 (fun n d => r_aloadn gx284_28 rfl) ?_)
        refine pt_d (pt_getR gx284_29 S tr_72_21 ?_)
        refine pt_d (pt_1 (fun n d => r_iloadn gx284_32 rfl) ?_)
        refine pt_d (pt_iald (N' := 300) gx284_33 S tl_88 z3 (fun v12 p12 q12 h12 => ?_))
        refine pt_d (pt_1 (fun n d => r_iloadn gx284_34 rfl) ?_)
        refine pt_d (pt_icmp_eq gx284_35 h12 z1 (fun e13 => ?_) (fun e13 => ?_))
        · have H := H.1 e13
          refine pt_d (pt_iconst gx284_41 (fun v14 h14 => ?_))
          refine pt_d (pt_1 (fun n d => r_istore (L' := [some (.ref 72), some (.int x1), some (.int x2), some (.int x3), some (.int v14)]) gx284_42 rfl rfl) ?_)
          exact H v14 h14
        · have H := H.2 e13
          refine pt_d (pt_1 (fun n d => r_goto gx284_38) ?_)
          refine pt_d (pt_iinc (c := 1) gx284_91 rfl z3 (fun v15 h15 => ?_))
          show Pt _ _ _ _ [some (.ref 72), some (.int x1), some (.int x2), some (.int v15), u4] [] _ _
          refine pt_d (pt_1 (fun n d => r_goto gx284_94) ?_)
          exact H v15 _ h15
theorem d284_44 {n : Nat} {X : aX} {h : aH} {P : Int → aH → Prop} {x1 x2 x3 x4 : Int32} {a1 a2 a3 a4 : Int} (S : wS h) (z1 : x1.toInt = a1) (z2 : x2.toInt = a2) (z3 : x3.toInt = a3) (z4 : x4.toInt = a4) (H : ((vw h 72 19 ≤ a4 → (∀ (w3 : Int32) (u4_ : Option Value), w3.toInt = w32 (a3 + 1) → Pt n X zM284 2 [some (.ref 72), some (.int x1), some (.int x2), some (.int w3), u4_] [] h (qI P))) ∧ (a4 < vw h 72 19 → (0 ≤ a4 → a4 < 300 → ((vw h 103 a4 = 0 → (∀ (w4 : Int32), w4.toInt = w32 (a4 + 1) → Pt n X zM284 44 [some (.ref 72), some (.int x1), some (.int x2), some (.int x3), some (.int w4)] [] h (qI P))) ∧ (vw h 103 a4 ≠ 0 → ((iDiv ((vw h) 90 a4) 365 ≠ a2 → (∀ (w4 : Int32), w4.toInt = w32 (a4 + 1) → Pt n X zM284 44 [some (.ref 72), some (.int x1), some (.int x2), some (.int x3), some (.int w4)] [] h (qI P))) ∧ (iDiv ((vw h) 90 a4) 365 = a2 → ((∀ c, 0 ≤ c → c < 300 → 0 ≤ vw h 88 c ∧ vw h 88 c < 150) ∧ ((¬ (mTr (vw h) a3 a4) → (∀ (w4 : Int32), w4.toInt = w32 (a4 + 1) → Pt n X zM284 44 [some (.ref 72), some (.int x1), some (.int x2), some (.int x3), some (.int w4)] [] h (qI P))) ∧ ((mTr (vw h) a3 a4) → P 1 h))))))))))) : Pt (n + 1) X zM284 44 [some (.ref 72), some (.int x1), some (.int x2), some (.int x3), some (.int x4)] [] h (qI P) := by
  refine pt_1 (fun n d => r_iload gx284_44 rfl) ?_
  refine pt_d (pt_1 (fun n d => r_aloadn gx284_46 rfl) ?_)
  refine pt_d (pt_getI (B := 19) gx284_47 S (fun v1 h1 => ?_))
  refine pt_d (pt_icmp_ge gx284_50 z4 h1 (fun e2 => ?_) (fun e2 => ?_))
  · have H := H.1 e2
    refine pt_d (pt_iinc (c := 1) gx284_91 rfl z3 (fun v3 h3 => ?_))
    show Pt _ _ _ _ [some (.ref 72), some (.int x1), some (.int x2), some (.int v3), some (.int x4)] [] _ _
    refine pt_d (pt_1 (fun n d => r_goto gx284_94) ?_)
    exact H v3 _ h3
  · have H := H.2 e2
    refine pt_d (pt_1 (fun n d => r_aloadn gx284_53 rfl) ?_)
    refine pt_d (pt_getR gx284_54 S tr_72_40 ?_)
    refine pt_d (pt_1 (fun n d => r_iload gx284_57 rfl) ?_)
    refine pt_d (pt_zald (N' := 300) gx284_59 S tl_103 z4 (fun v5 p5 q5 h5 => ?_))
    have H := H p5 q5
    refine pt_d (pt_if_eq gx284_60 h5 (fun e6 => ?_) (fun e6 => ?_))
    · have H := H.1 e6
      refine pt_d (pt_iinc (c := 1) gx284_85 rfl z4 (fun v7 h7 => ?_))
      show Pt _ _ _ _ [some (.ref 72), some (.int x1), some (.int x2), some (.int x3), some (.int v7)] [] _ _
      refine pt_d (pt_1 (fun n d => r_goto gx284_88) ?_)
      exact H v7 h7
    · have H := H.2 e6
      refine pt_d (pt_1 (fun n d => r_aloadn gx284_63 rfl) ?_)
      refine pt_d (pt_1 (fun n d => r_iload gx284_64 rfl) ?_)
      refine pt_d (pt_virt (as := [.int x4]) (r := []) gx284_66 rfl (show zmt[229]? = some zM229 from rfl) rfl rfl rfl rfl (c_229 S z4) (kqP (fun v8 h8 => ?_)))
      show Pt _ _ _ 69 _ [.int v8] _ _
      refine pt_d (pt_1 (fun n d => r_iloadn gx284_69 rfl) ?_)
      refine pt_d (pt_icmp_ne gx284_70 h8 z2 (fun e9 => ?_) (fun e9 => ?_))
      · have H := H.1 e9
        refine pt_d (pt_iinc (c := 1) gx284_85 rfl z4 (fun v10 h10 => ?_))
        show Pt _ _ _ _ [some (.ref 72), some (.int x1), some (.int x2), some (.int x3), some (.int v10)] [] _ _
        refine pt_d (pt_1 (fun n d => r_goto gx284_88) ?_)
        exact H v10 h10
      · have H := H.2 e9
        refine pt_d (pt_1 (fun n d => r_aloadn gx284_73 rfl) ?_)
        refine pt_d (pt_1 (fun n d => r_iloadn gx284_74 rfl) ?_)
        refine pt_d (pt_1 (fun n d => r_iload gx284_75 rfl) ?_)
        obtain ⟨pr11, H⟩ := H
        refine pt_d (pt_virt (as := [.int x3, .int x4]) (r := []) gx284_77 rfl (show zmt[283]? = some zM283 from rfl) rfl rfl rfl rfl (c_283 S z3 z4 pr11) (kqP (fun v11 h11 => ?_)))
        show Pt _ _ _ 80 _ [.int v11] _ _
        refine pt_d (pt_ifB_eq gx284_80 h11 (fun e12 => ?_) (fun e12 => ?_))
        · have H := H.1 e12
          refine pt_d (pt_iinc (c := 1) gx284_85 rfl z4 (fun v13 h13 => ?_))
          show Pt _ _ _ _ [some (.ref 72), some (.int x1), some (.int x2), some (.int x3), some (.int v13)] [] _ _
          refine pt_d (pt_1 (fun n d => r_goto gx284_88) ?_)
          exact H v13 h13
        · have H := H.2 e12
          refine pt_d (pt_iconst gx284_83 (fun v14 h14 => ?_))
          exact pt_d (pt_iret gx284_84 ⟨_, rfl, by rw [h14]; exact H⟩)
theorem d285_0 {n : Nat} {X : aX} {h : aH} {P : Int → aH → Prop} {x1 x2 : Int32} {a1 a2 : Int} (S : wS h) (z1 : x1.toInt = a1) (z2 : x2.toInt = a2) (H : (∀ (w3 : Int32), w3.toInt = 0 → Pt n X zM285 2 [some (.ref 72), some (.int x1), some (.int x2), some (.int w3)] [] h (qI P))) : Pt (n + 1) X zM285 0 [some (.ref 72), some (.int x1), some (.int x2), none] [] h (qI P) := by
  refine pt_iconst gx285_0 (fun v1 h1 => ?_)
  refine pt_d (pt_1 (fun n d => r_istoren (L' := [some (.ref 72), some (.int x1), some (.int x2), some (.int v1)]) gx285_1 rfl rfl) ?_)
  exact H v1 h1
theorem d285_2 {n : Nat} {X : aX} {h : aH} {P : Int → aH → Prop} {x1 x2 x3 : Int32} {a1 a2 a3 : Int} (S : wS h) (z1 : x1.toInt = a1) (z2 : x2.toInt = a2) (z3 : x3.toInt = a3) (H : ((vw h 72 79 ≤ a3 → P 0 h) ∧ (a3 < vw h 72 79 → ((bAnd (bShr a2 a3) 1 ≠ 1 → (∀ (w3 : Int32), w3.toInt = w32 (a3 + 1) → Pt n X zM285 2 [some (.ref 72), some (.int x1), some (.int x2), some (.int w3)] [] h (qI P))) ∧ (bAnd (bShr a2 a3) 1 = 1 → (0 ≤ a3 → a3 < 10 → ((vw h 132 a3 ≠ a1 → (∀ (w3 : Int32), w3.toInt = w32 (a3 + 1) → Pt n X zM285 2 [some (.ref 72), some (.int x1), some (.int x2), some (.int w3)] [] h (qI P))) ∧ (vw h 132 a3 = a1 → P 1 h)))))))) : Pt (n + 1) X zM285 2 [some (.ref 72), some (.int x1), some (.int x2), some (.int x3)] [] h (qI P) := by
  refine pt_1 (fun n d => r_iloadn gx285_2 rfl) ?_
  refine pt_d (pt_1 (fun n d => r_aloadn gx285_3 rfl) ?_)
  refine pt_d (pt_getI (B := 79) gx285_4 S (fun v1 h1 => ?_))
  refine pt_d (pt_icmp_ge gx285_7 z3 h1 (fun e2 => ?_) (fun e2 => ?_))
  · have H := H.1 e2
    refine pt_d (pt_iconst gx285_37 (fun v3 h3 => ?_))
    exact pt_d (pt_iret gx285_38 ⟨_, rfl, by rw [h3]; exact H⟩)
  · have H := H.2 e2
    refine pt_d (pt_1 (fun n d => r_iloadn gx285_10 rfl) ?_)
    refine pt_d (pt_1 (fun n d => r_iloadn gx285_11 rfl) ?_)
    refine pt_d (pt_ishr gx285_12 z2 z3 (fun v4 h4 => ?_))
    refine pt_d (pt_iconst gx285_13 (fun v5 h5 => ?_))
    refine pt_d (pt_iand gx285_14 h4 h5 (fun v6 h6 => ?_))
    refine pt_d (pt_iconst gx285_15 (fun v7 h7 => ?_))
    refine pt_d (pt_icmp_ne gx285_16 h6 h7 (fun e8 => ?_) (fun e8 => ?_))
    · have H := H.1 e8
      refine pt_d (pt_iinc (c := 1) gx285_31 rfl z3 (fun v9 h9 => ?_))
      show Pt _ _ _ _ [some (.ref 72), some (.int x1), some (.int x2), some (.int v9)] [] _ _
      refine pt_d (pt_1 (fun n d => r_goto gx285_34) ?_)
      exact H v9 h9
    · have H := H.2 e8
      refine pt_d (pt_1 (fun n d => r_aloadn gx285_19 rfl) ?_)
      refine pt_d (pt_getR gx285_20 S tr_72_80 ?_)
      refine pt_d (pt_1 (fun n d => r_iloadn gx285_23 rfl) ?_)
      refine pt_d (pt_iald (N' := 10) gx285_24 S tl_132 z3 (fun v11 p11 q11 h11 => ?_))
      have H := H p11 q11
      refine pt_d (pt_1 (fun n d => r_iloadn gx285_25 rfl) ?_)
      refine pt_d (pt_icmp_ne gx285_26 h11 z1 (fun e12 => ?_) (fun e12 => ?_))
      · have H := H.1 e12
        refine pt_d (pt_iinc (c := 1) gx285_31 rfl z3 (fun v13 h13 => ?_))
        show Pt _ _ _ _ [some (.ref 72), some (.int x1), some (.int x2), some (.int v13)] [] _ _
        refine pt_d (pt_1 (fun n d => r_goto gx285_34) ?_)
        exact H v13 h13
      · have H := H.2 e12
        refine pt_d (pt_iconst gx285_29 (fun v14 h14 => ?_))
        exact pt_d (pt_iret gx285_30 ⟨_, rfl, by rw [h14]; exact H⟩)
def hasT (V : vS) (b y : Int) : Prop := ∃ c o, ((0 ≤ c ∧ c < V 72 19) ∧ 0 ≤ o ∧ o < V 72 19) ∧ (inY V y c ∧ V 88 c = b) ∧ inY V y o ∧ mTr V c o
theorem l_284 {X : aX} {h : aH} {b y : Int} (S : wS h) (hN : 0 ≤ vw h 72 19 ∧ vw h 72 19 ≤ 300) (hF : ∀ c, 0 ≤ c → c < 300 → 0 ≤ vw h 88 c ∧ vw h 88 c < 150) : ∀ n : Nat, (∀ (x1 x2 x3 : Int32) (u4 : Option Value) (c : Int), x1.toInt = b → x2.toInt = y → x3.toInt = c → 0 ≤ c → (∀ c' o, 0 ≤ c' → c' < c → 0 ≤ o → o < vw h 72 19 → ¬ ((inY (vw h) y c' ∧ vw h 88 c' = b) ∧ inY (vw h) y o ∧ mTr (vw h) c' o)) → Pt n X zM284 2 [some (.ref 72), some (.int x1), some (.int x2), some (.int x3), u4] [] h (qI (fun r h' => h' = h ∧ r = bI (hasT (vw h) b y)))) ∧
    (∀ (x1 x2 x3 x4 : Int32) (c o : Int), x1.toInt = b → x2.toInt = y → x3.toInt = c → x4.toInt = o → (0 ≤ c ∧ c < vw h 72 19) → 0 ≤ o → (inY (vw h) y c ∧ vw h 88 c = b) → (∀ c' o, 0 ≤ c' → c' < c → 0 ≤ o → o < vw h 72 19 → ¬ ((inY (vw h) y c' ∧ vw h 88 c' = b) ∧ inY (vw h) y o ∧ mTr (vw h) c' o)) → (∀ o', 0 ≤ o' → o' < o → ¬ (inY (vw h) y o' ∧ mTr (vw h) c o')) → Pt n X zM284 44 [some (.ref 72), some (.int x1), some (.int x2), some (.int x3), some (.int x4)] [] h (qI (fun r h' => h' = h ∧ r = bI (hasT (vw h) b y)))) := by
  intro n
  induction n with
  | zero => exact ⟨by intros; exact pt_z, by intros; exact pt_z⟩
  | succ n ih =>
    have step : ∀ (x1 x2 : Int32) (c : Int), x1.toInt = b → x2.toInt = y → 0 ≤ c → c < vw h 72 19 → (∀ c' o, 0 ≤ c' → c' < c → 0 ≤ o → o < vw h 72 19 → ¬ ((inY (vw h) y c' ∧ vw h 88 c' = b) ∧ inY (vw h) y o ∧ mTr (vw h) c' o)) → (∀ o, 0 ≤ o → o < vw h 72 19 → ¬ ((inY (vw h) y c ∧ vw h 88 c = b) ∧ inY (vw h) y o ∧ mTr (vw h) c o)) → ∀ (w : Int32) (u : Option Value), w.toInt = w32 (c + 1) → Pt n X zM284 2 [some (.ref 72), some (.int x1), some (.int x2), some (.int w), u] [] h (qI (fun r h' => h' = h ∧ r = bI (hasT (vw h) b y))) := by
      intro x1 x2 c h1 h2 c0 cN no z w u g
      replace g := w_1 g (by omega) (by omega)
      refine ih.1 x1 x2 w u (c + 1) h1 h2 g (by omega) (fun c' o a d e f => ?_)
      by_cases q : c' = c
      · rw [q]
        exact z o e f
      · exact no c' o a (by omega) e f
    refine ⟨fun x1 x2 x3 u4 c h1 h2 h3 c0 no => ?_, fun x1 x2 x3 x4 c o h1 h2 h3 h4 hc o0 yc no nj => ?_⟩
    · refine d284_2 S h1 h2 h3 ⟨fun e => ⟨rfl, (bI_f (fun ⟨c', o, m, z⟩ => no c' o m.1.1 (by omega) m.2.1 m.2.2 z)).symm⟩, fun e _ _ => ⟨fun z w u g => step x1 x2 c h1 h2 c0 e no (fun o _ _ q => q.1.1.1 z) w u g, fun z => ⟨fun z2 w u g => step x1 x2 c h1 h2 c0 e no (fun o _ _ q => z2 q.1.1.2) w u g, fun z2 => ⟨fun z3 w g => ?_, fun z3 w u g => step x1 x2 c h1 h2 c0 e no (fun o _ _ q => z3 q.1.2) w u g⟩⟩⟩⟩
      exact ih.2 x1 x2 x3 w c 0 h1 h2 h3 g ⟨c0, e⟩ (Int.le_refl _) ⟨⟨z, z2⟩, z3⟩ no (fun o' a d => by omega)
    · have next : o < vw h 72 19 → ¬ (inY (vw h) y o ∧ mTr (vw h) c o) → ∀ w : Int32, w.toInt = w32 (o + 1) → Pt n X zM284 44 [some (.ref 72), some (.int x1), some (.int x2), some (.int x3), some (.int w)] [] h (qI (fun r h' => h' = h ∧ r = bI (hasT (vw h) b y))) := by
        intro e z w g
        replace g := w_1 g (by omega) (by omega)
        refine ih.2 x1 x2 x3 w c (o + 1) h1 h2 h3 g hc (by omega) yc no (fun o' a d => ?_)
        by_cases q : o' = o
        · rw [q]
          exact z
        · exact nj o' a (by omega)
      exact d284_44 S h1 h2 h3 h4 ⟨fun e w u g => step x1 x2 c h1 h2 hc.1 hc.2 no (fun o' a _ q => nj o' a (by omega) q.2) w u g, fun e _ _ => ⟨fun z w g => next e (fun q => q.1.1 z) w g, fun z => ⟨fun z2 w g => next e (fun q => z2 q.1.2) w g, fun z2 => ⟨hF, fun z3 w g => next e (fun q => z3 q.2) w g, fun z3 => ⟨rfl, (bI_t ⟨c, o, ⟨hc, o0, e⟩, yc, ⟨z, z2⟩, z3⟩).symm⟩⟩⟩⟩⟩
theorem c_284 {n : Nat} {X : aX} {h : aH} {x1 x2 : Int32} {a1 a2 : Int} (S : wS h) (z1 : x1.toInt = a1) (z2 : x2.toInt = a2) (hp : (0 ≤ vw h 72 19 ∧ vw h 72 19 ≤ 300) ∧ ∀ c, 0 ≤ c → c < 300 → 0 ≤ vw h 88 c ∧ vw h 88 c < 150) : Pt n X zM284 0 [some (.ref 72), some (.int x1), some (.int x2), none, none] [] h (qI (fun r h' => h' = h ∧ r = bI (hasT (vw h) a1 a2))) :=
  pt_d (d284_0 S z1 z2 (fun w u g => (l_284 S hp.1 hp.2 n).1 x1 x2 w u 0 z1 z2 g (Int.le_refl _) (fun c o a d => by omega)))
def isAw (V : vS) (b s : Int) : Prop := ∃ k, (0 ≤ k ∧ k < V 72 79) ∧ bAnd (bShr s k) 1 = 1 ∧ V 132 k = b
theorem l_285 {X : aX} {h : aH} {b s : Int} (S : wS h) (hN : 0 ≤ vw h 72 79 ∧ vw h 72 79 ≤ 10) : ∀ (n : Nat) (x1 x2 x3 : Int32) (k : Int), x1.toInt = b → x2.toInt = s → x3.toInt = k → 0 ≤ k → (∀ j, 0 ≤ j → j < k → ¬ (bAnd (bShr s j) 1 = 1 ∧ vw h 132 j = b)) → Pt n X zM285 2 [some (.ref 72), some (.int x1), some (.int x2), some (.int x3)] [] h (qI (fun r h' => h' = h ∧ r = bI (isAw (vw h) b s))) := by
  intro n
  induction n with
  | zero => intros; exact pt_z
  | succ n ih =>
    intro x1 x2 x3 k h1 h2 h3 k0 no
    have next : k < vw h 72 79 → ¬ (bAnd (bShr s k) 1 = 1 ∧ vw h 132 k = b) → ∀ w : Int32, w.toInt = w32 (k + 1) → Pt n X zM285 2 [some (.ref 72), some (.int x1), some (.int x2), some (.int w)] [] h (qI (fun r h' => h' = h ∧ r = bI (isAw (vw h) b s))) := by
      intro e z w g
      replace g := w_1 g (by omega) (by omega)
      refine ih x1 x2 w (k + 1) h1 h2 g (by omega) (fun j a d => ?_)
      by_cases q : j = k
      · rw [q]
        exact z
      · exact no j a (by omega)
    exact d285_2 S h1 h2 h3 ⟨fun e => ⟨rfl, (bI_f (fun ⟨j, m, z⟩ => no j m.1 (by omega) z)).symm⟩, fun e => ⟨fun z w g => next e (fun q => z q.1) w g, fun z _ _ => ⟨fun z2 w g => next e (fun q => z2 q.2) w g, fun z2 => ⟨rfl, (bI_t ⟨k, ⟨k0, e⟩, z, z2⟩).symm⟩⟩⟩⟩
theorem c_285 {n : Nat} {X : aX} {h : aH} {x1 x2 : Int32} {a1 a2 : Int} (S : wS h) (z1 : x1.toInt = a1) (z2 : x2.toInt = a2) (hp : 0 ≤ vw h 72 79 ∧ vw h 72 79 ≤ 10) : Pt n X zM285 0 [some (.ref 72), some (.int x1), some (.int x2), none] [] h (qI (fun r h' => h' = h ∧ r = bI (isAw (vw h) a1 a2))) :=
  pt_d (d285_0 S z1 z2 (fun w g => l_285 S hp n x1 x2 w 0 z1 z2 g (Int.le_refl _) (fun j a d => by omega)))

theorem d286_0 {n : Nat} {X : aX} {h : aH} {P : Int → aH → Prop} {x1 x2 : Int32} {a1 a2 : Int} (S : wS h) (z1 : x1.toInt = a1) (z2 : x2.toInt = a2) (H : (∀ (w3 : Int32) (u4_ : Option Value), w3.toInt = 0 → Pt n X zM286 2 [some (.ref 72), some (.int x1), some (.int x2), some (.int w3), u4_] [] h (qI P))) : Pt (n + 1) X zM286 0 [some (.ref 72), some (.int x1), some (.int x2), none, none] [] h (qI P) := by
  refine pt_iconst gx286_0 (fun v1 h1 => ?_)
  refine pt_d (pt_1 (fun n d => r_istoren (L' := [some (.ref 72), some (.int x1), some (.int x2), some (.int v1), none]) gx286_1 rfl rfl) ?_)
  exact H v1 _ h1
theorem d286_2 {n : Nat} {X : aX} {h : aH} {P : Int → aH → Prop} {x1 x2 x3 : Int32} {a1 a2 a3 : Int} {u4 : Option Value} (S : wS h) (z1 : x1.toInt = a1) (z2 : x2.toInt = a2) (z3 : x3.toInt = a3) (H : ((vw h 72 19 ≤ a3 → P 1 h) ∧ (a3 < vw h 72 19 → (0 ≤ a3 → a3 < 300 → ((vw h 103 a3 = 0 → (∀ (w3 : Int32) (u4_ : Option Value), w3.toInt = w32 (a3 + 1) → Pt n X zM286 2 [some (.ref 72), some (.int x1), some (.int x2), some (.int w3), u4_] [] h (qI P))) ∧ (vw h 103 a3 ≠ 0 → ((iDiv ((vw h) 90 a3) 365 ≠ a2 → (∀ (w3 : Int32) (u4_ : Option Value), w3.toInt = w32 (a3 + 1) → Pt n X zM286 2 [some (.ref 72), some (.int x1), some (.int x2), some (.int w3), u4_] [] h (qI P))) ∧ (iDiv ((vw h) 90 a3) 365 = a2 → ((0 ≤ vw h 72 79 ∧ vw h 72 79 ≤ 10) ∧ ((¬ (isAw (vw h) (vw h 88 a3) a1) → (∀ (w4 : Int32), w4.toInt = w32 (a3 + 1) → Pt n X zM286 50 [some (.ref 72), some (.int x1), some (.int x2), some (.int x3), some (.int w4)] [] h (qI P))) ∧ ((isAw (vw h) (vw h 88 a3) a1) → (∀ (w3 : Int32) (u4_ : Option Value), w3.toInt = w32 (a3 + 1) → Pt n X zM286 2 [some (.ref 72), some (.int x1), some (.int x2), some (.int w3), u4_] [] h (qI P))))))))))))) : Pt (n + 1) X zM286 2 [some (.ref 72), some (.int x1), some (.int x2), some (.int x3), u4] [] h (qI P) := by
  refine pt_1 (fun n d => r_iloadn gx286_2 rfl) ?_
  refine pt_d (pt_1 (fun n d => r_aloadn gx286_3 rfl) ?_)
  refine pt_d (pt_getI (B := 19) gx286_4 S (fun v1 h1 => ?_))
  refine pt_d (pt_icmp_ge gx286_7 z3 h1 (fun e2 => ?_) (fun e2 => ?_))
  · have H := H.1 e2
    refine pt_d (pt_iconst gx286_118 (fun v3 h3 => ?_))
    exact pt_d (pt_iret gx286_119 ⟨_, rfl, by rw [h3]; exact H⟩)
  · have H := H.2 e2
    refine pt_d (pt_1 (fun n d => r_aloadn gx286_10 rfl) ?_)
    refine pt_d (pt_getR gx286_11 S tr_72_40 ?_)
    refine pt_d (pt_1 (fun n d => r_iloadn gx286_14 rfl) ?_)
    refine pt_d (pt_zald (N' := 300) gx286_15 S tl_103 z3 (fun v5 p5 q5 h5 => ?_))
    have H := H p5 q5
    refine pt_d (pt_if_eq gx286_16 h5 (fun e6 => ?_) (fun e6 => ?_))
    · have H := H.1 e6
      refine pt_d (pt_iinc (c := 1) gx286_112 rfl z3 (fun v7 h7 => ?_))
      show Pt _ _ _ _ [some (.ref 72), some (.int x1), some (.int x2), some (.int v7), u4] [] _ _
      refine pt_d (pt_1 (fun n d => r_goto gx286_115) ?_)
      exact H v7 _ h7
    · have H := H.2 e6
      refine pt_d (pt_1 (fun n d => r_aloadn gx286_19 rfl) ?_)
      refine pt_d (pt_1 (fun n d => r_iloadn gx286_20 rfl) ?_)
      refine pt_d (pt_virt (as := [.int x3]) (r := []) gx286_21 rfl (show zmt[229]? = some zM229 from rfl) rfl rfl rfl rfl (c_229 S z3) (kqP (fun v8 h8 => ?_)))
      show Pt _ _ _ 24 _ [.int v8] _ _
      refine pt_d (pt_1 (fun n d => r_iloadn gx286_24 rfl) ?_)
      refine pt_d (pt_icmp_ne gx286_25 h8 z2 (fun e9 => ?_) (fun e9 => ?_))
      · have H := H.1 e9
        refine pt_d (pt_iinc (c := 1) gx286_112 rfl z3 (fun v10 h10 => ?_))
        show Pt _ _ _ _ [some (.ref 72), some (.int x1), some (.int x2), some (.int v10), u4] [] _ _
        refine pt_d (pt_1 (fun n d => r_goto gx286_115) ?_)
        exact H v10 _ h10
      · have H := H.2 e9
        refine pt_d (pt_1 (fun n d => r_aloadn gx286_28 rfl) ?_)
        refine pt_d (pt_1 (fun n d => r_aloadn gx286_29 rfl) ?_)
        refine pt_d (pt_getR gx286_30 S tr_72_21 ?_)
        refine pt_d (pt_1 (fun n d => r_iloadn gx286_33 rfl) ?_)
        refine pt_d (pt_iald (N' := 300) gx286_34 S tl_88 z3 (fun v12 p12 q12 h12 => ?_))
        refine pt_d (pt_1 (fun n d => r_iloadn gx286_35 rfl) ?_)
        obtain ⟨pr13, H⟩ := H
        refine pt_d (pt_virt (as := [.int v12, .int x1]) (r := []) gx286_36 rfl (show zmt[285]? = some zM285 from rfl) rfl rfl rfl rfl (c_285 S h12 z1 pr13) (kqP (fun v13 h13 => ?_)))
        show Pt _ _ _ 39 _ [.int v13] _ _
        refine pt_d (pt_ifB_eq gx286_39 h13 (fun e14 => ?_) (fun e14 => ?_))
        · have H := H.1 e14
          refine pt_d (pt_1 (fun n d => r_iloadn gx286_45 rfl) ?_)
          refine pt_d (pt_iconst gx286_46 (fun v15 h15 => ?_))
          refine pt_d (pt_iadd gx286_47 z3 h15 (fun v16 h16 => ?_))
          refine pt_d (pt_1 (fun n d => r_istore (L' := [some (.ref 72), some (.int x1), some (.int x2), some (.int x3), some (.int v16)]) gx286_48 rfl rfl) ?_)
          exact H v16 h16
        · have H := H.2 e14
          refine pt_d (pt_1 (fun n d => r_goto gx286_42) ?_)
          refine pt_d (pt_iinc (c := 1) gx286_112 rfl z3 (fun v17 h17 => ?_))
          show Pt _ _ _ _ [some (.ref 72), some (.int x1), some (.int x2), some (.int v17), u4] [] _ _
          refine pt_d (pt_1 (fun n d => r_goto gx286_115) ?_)
          exact H v17 _ h17
theorem d286_50 {n : Nat} {X : aX} {h : aH} {P : Int → aH → Prop} {x1 x2 x3 x4 : Int32} {a1 a2 a3 a4 : Int} (S : wS h) (z1 : x1.toInt = a1) (z2 : x2.toInt = a2) (z3 : x3.toInt = a3) (z4 : x4.toInt = a4) (H : ((vw h 72 19 ≤ a4 → (∀ (w3 : Int32) (u4_ : Option Value), w3.toInt = w32 (a3 + 1) → Pt n X zM286 2 [some (.ref 72), some (.int x1), some (.int x2), some (.int w3), u4_] [] h (qI P))) ∧ (a4 < vw h 72 19 → (0 ≤ a4 → a4 < 300 → ((vw h 103 a4 = 0 → (∀ (w4 : Int32), w4.toInt = w32 (a4 + 1) → Pt n X zM286 50 [some (.ref 72), some (.int x1), some (.int x2), some (.int x3), some (.int w4)] [] h (qI P))) ∧ (vw h 103 a4 ≠ 0 → ((iDiv ((vw h) 90 a4) 365 ≠ a2 → (∀ (w4 : Int32), w4.toInt = w32 (a4 + 1) → Pt n X zM286 50 [some (.ref 72), some (.int x1), some (.int x2), some (.int x3), some (.int w4)] [] h (qI P))) ∧ (iDiv ((vw h) 90 a4) 365 = a2 → ((0 ≤ vw h 72 79 ∧ vw h 72 79 ≤ 10) ∧ (((isAw (vw h) (vw h 88 a4) a1) → (∀ (w4 : Int32), w4.toInt = w32 (a4 + 1) → Pt n X zM286 50 [some (.ref 72), some (.int x1), some (.int x2), some (.int x3), some (.int w4)] [] h (qI P))) ∧ (¬ (isAw (vw h) (vw h 88 a4) a1) → ((∀ c, 0 ≤ c → c < 300 → 0 ≤ vw h 88 c ∧ vw h 88 c < 150) ∧ ((¬ (mTr (vw h) a3 a4) → (∀ (w4 : Int32), w4.toInt = w32 (a4 + 1) → Pt n X zM286 50 [some (.ref 72), some (.int x1), some (.int x2), some (.int x3), some (.int w4)] [] h (qI P))) ∧ ((mTr (vw h) a3 a4) → P 0 h)))))))))))))) : Pt (n + 1) X zM286 50 [some (.ref 72), some (.int x1), some (.int x2), some (.int x3), some (.int x4)] [] h (qI P) := by
  refine pt_1 (fun n d => r_iload gx286_50 rfl) ?_
  refine pt_d (pt_1 (fun n d => r_aloadn gx286_52 rfl) ?_)
  refine pt_d (pt_getI (B := 19) gx286_53 S (fun v1 h1 => ?_))
  refine pt_d (pt_icmp_ge gx286_56 z4 h1 (fun e2 => ?_) (fun e2 => ?_))
  · have H := H.1 e2
    refine pt_d (pt_iinc (c := 1) gx286_112 rfl z3 (fun v3 h3 => ?_))
    show Pt _ _ _ _ [some (.ref 72), some (.int x1), some (.int x2), some (.int v3), some (.int x4)] [] _ _
    refine pt_d (pt_1 (fun n d => r_goto gx286_115) ?_)
    exact H v3 _ h3
  · have H := H.2 e2
    refine pt_d (pt_1 (fun n d => r_aloadn gx286_59 rfl) ?_)
    refine pt_d (pt_getR gx286_60 S tr_72_40 ?_)
    refine pt_d (pt_1 (fun n d => r_iload gx286_63 rfl) ?_)
    refine pt_d (pt_zald (N' := 300) gx286_65 S tl_103 z4 (fun v5 p5 q5 h5 => ?_))
    have H := H p5 q5
    refine pt_d (pt_if_eq gx286_66 h5 (fun e6 => ?_) (fun e6 => ?_))
    · have H := H.1 e6
      refine pt_d (pt_iinc (c := 1) gx286_106 rfl z4 (fun v7 h7 => ?_))
      show Pt _ _ _ _ [some (.ref 72), some (.int x1), some (.int x2), some (.int x3), some (.int v7)] [] _ _
      refine pt_d (pt_1 (fun n d => r_goto gx286_109) ?_)
      exact H v7 h7
    · have H := H.2 e6
      refine pt_d (pt_1 (fun n d => r_aloadn gx286_69 rfl) ?_)
      refine pt_d (pt_1 (fun n d => r_iload gx286_70 rfl) ?_)
      refine pt_d (pt_virt (as := [.int x4]) (r := []) gx286_72 rfl (show zmt[229]? = some zM229 from rfl) rfl rfl rfl rfl (c_229 S z4) (kqP (fun v8 h8 => ?_)))
      show Pt _ _ _ 75 _ [.int v8] _ _
      refine pt_d (pt_1 (fun n d => r_iloadn gx286_75 rfl) ?_)
      refine pt_d (pt_icmp_ne gx286_76 h8 z2 (fun e9 => ?_) (fun e9 => ?_))
      · have H := H.1 e9
        refine pt_d (pt_iinc (c := 1) gx286_106 rfl z4 (fun v10 h10 => ?_))
        show Pt _ _ _ _ [some (.ref 72), some (.int x1), some (.int x2), some (.int x3), some (.int v10)] [] _ _
        refine pt_d (pt_1 (fun n d => r_goto gx286_109) ?_)
        exact H v10 h10
      · have H := H.2 e9
        refine pt_d (pt_1 (fun n d => r_aloadn gx286_79 rfl) ?_)
        refine pt_d (pt_1 (fun n d => r_aloadn gx286_80 rfl) ?_)
        refine pt_d (pt_getR gx286_81 S tr_72_21 ?_)
        refine pt_d (pt_1 (fun n d => r_iload gx286_84 rfl) ?_)
        refine pt_d (pt_iald (N' := 300) gx286_86 S tl_88 z4 (fun v12 p12 q12 h12 => ?_))
        refine pt_d (pt_1 (fun n d => r_iloadn gx286_87 rfl) ?_)
        obtain ⟨pr13, H⟩ := H
        refine pt_d (pt_virt (as := [.int v12, .int x1]) (r := []) gx286_88 rfl (show zmt[285]? = some zM285 from rfl) rfl rfl rfl rfl (c_285 S h12 z1 pr13) (kqP (fun v13 h13 => ?_)))
        show Pt _ _ _ 91 _ [.int v13] _ _
        refine pt_d (pt_ifB_ne gx286_91 h13 (fun e14 => ?_) (fun e14 => ?_))
        · have H := H.1 e14
          refine pt_d (pt_iinc (c := 1) gx286_106 rfl z4 (fun v15 h15 => ?_))
          show Pt _ _ _ _ [some (.ref 72), some (.int x1), some (.int x2), some (.int x3), some (.int v15)] [] _ _
          refine pt_d (pt_1 (fun n d => r_goto gx286_109) ?_)
          exact H v15 h15
        · have H := H.2 e14
          refine pt_d (pt_1 (fun n d => r_aloadn gx286_94 rfl) ?_)
          refine pt_d (pt_1 (fun n d => r_iloadn gx286_95 rfl) ?_)
          refine pt_d (pt_1 (fun n d => r_iload gx286_96 rfl) ?_)
          obtain ⟨pr16, H⟩ := H
          refine pt_d (pt_virt (as := [.int x3, .int x4]) (r := []) gx286_98 rfl (show zmt[283]? = some zM283 from rfl) rfl rfl rfl rfl (c_283 S z3 z4 pr16) (kqP (fun v16 h16 => ?_)))
          show Pt _ _ _ 101 _ [.int v16] _ _
          refine pt_d (pt_ifB_eq gx286_101 h16 (fun e17 => ?_) (fun e17 => ?_))
          · have H := H.1 e17
            refine pt_d (pt_iinc (c := 1) gx286_106 rfl z4 (fun v18 h18 => ?_))
            show Pt _ _ _ _ [some (.ref 72), some (.int x1), some (.int x2), some (.int x3), some (.int v18)] [] _ _
            refine pt_d (pt_1 (fun n d => r_goto gx286_109) ?_)
            exact H v18 h18
          · have H := H.2 e17
            refine pt_d (pt_iconst gx286_104 (fun v19 h19 => ?_))
            exact pt_d (pt_iret gx286_105 ⟨_, rfl, by rw [h19]; exact H⟩)
theorem d287_0 {n : Nat} {X : aX} {h : aH} {P : Int → aH → Prop} {x0 : Int32} {a0 : Int} (S : wS h) (z0 : x0.toInt = a0) (H : (∀ (w1 : Int32), w1.toInt = 0 → Pt n X zM287 4 [some (.int x0), some (.int w1), some (.int x0)] [] h (qI P))) : Pt (n + 1) X zM287 0 [some (.int x0), none, none] [] h (qI P) := by
  refine pt_iconst gx287_0 (fun v1 h1 => ?_)
  refine pt_d (pt_1 (fun n d => r_istoren (L' := [some (.int x0), some (.int v1), none]) gx287_1 rfl rfl) ?_)
  refine pt_d (pt_1 (fun n d => r_iloadn gx287_2 rfl) ?_)
  refine pt_d (pt_1 (fun n d => r_istoren (L' := [some (.int x0), some (.int v1), some (.int x0)]) gx287_3 rfl rfl) ?_)
  exact H v1 h1
theorem d287_4 {n : Nat} {X : aX} {h : aH} {P : Int → aH → Prop} {x0 x1 x2 : Int32} {a0 a1 a2 : Int} (S : wS h) (z0 : x0.toInt = a0) (z1 : x1.toInt = a1) (z2 : x2.toInt = a2) (H : ((a2 = 0 → P a1 h) ∧ (a2 ≠ 0 → (∀ (w1 : Int32) (w2 : Int32), w1.toInt = w32 (a1 + 1) → w2.toInt = bAnd a2 (w32 (a2 - 1)) → Pt n X zM287 4 [some (.int x0), some (.int w1), some (.int w2)] [] h (qI P))))) : Pt (n + 1) X zM287 4 [some (.int x0), some (.int x1), some (.int x2)] [] h (qI P) := by
  refine pt_1 (fun n d => r_iloadn gx287_4 rfl) ?_
  refine pt_d (pt_if_eq gx287_5 z2 (fun e1 => ?_) (fun e1 => ?_))
  · have H := H.1 e1
    refine pt_d (pt_1 (fun n d => r_iloadn gx287_20 rfl) ?_)
    exact pt_d (pt_iret gx287_21 ⟨_, rfl, by rw [z1]; exact H⟩)
  · have H := H.2 e1
    refine pt_d (pt_iinc (c := 1) gx287_8 rfl z1 (fun v2 h2 => ?_))
    show Pt _ _ _ _ [some (.int x0), some (.int v2), some (.int x2)] [] _ _
    refine pt_d (pt_1 (fun n d => r_iloadn gx287_11 rfl) ?_)
    refine pt_d (pt_1 (fun n d => r_iloadn gx287_12 rfl) ?_)
    refine pt_d (pt_iconst gx287_13 (fun v3 h3 => ?_))
    refine pt_d (pt_isub gx287_14 z2 h3 (fun v4 h4 => ?_))
    refine pt_d (pt_iand gx287_15 z2 h4 (fun v5 h5 => ?_))
    refine pt_d (pt_1 (fun n d => r_istoren (L' := [some (.int x0), some (.int v2), some (.int v5)]) gx287_16 rfl rfl) ?_)
    refine pt_d (pt_1 (fun n d => r_goto gx287_17) ?_)
    exact H v2 v5 h2 h5
def cur (V : vS) (s y : Int) : Prop := ∀ c o, 0 ≤ c → c < o → o < V 72 19 → (inY V y c ∧ ¬ isAw V (V 88 c) s) → (inY V y o ∧ ¬ isAw V (V 88 o) s) → ¬ mTr V c o
theorem l_286 {X : aX} {h : aH} {s y : Int} (S : wS h) (hN : 0 ≤ vw h 72 19 ∧ vw h 72 19 ≤ 300) (hF : ∀ c, 0 ≤ c → c < 300 → 0 ≤ vw h 88 c ∧ vw h 88 c < 150) (hM : 0 ≤ vw h 72 79 ∧ vw h 72 79 ≤ 10) : ∀ n : Nat, (∀ (x1 x2 x3 : Int32) (u4 : Option Value) (c : Int), x1.toInt = s → x2.toInt = y → x3.toInt = c → 0 ≤ c → (∀ c' o, 0 ≤ c' → c' < c → c' < o → o < vw h 72 19 → (inY (vw h) y c' ∧ ¬ isAw (vw h) (vw h 88 c') s) → (inY (vw h) y o ∧ ¬ isAw (vw h) (vw h 88 o) s) → ¬ mTr (vw h) c' o) → Pt n X zM286 2 [some (.ref 72), some (.int x1), some (.int x2), some (.int x3), u4] [] h (qI (fun r h' => h' = h ∧ r = bI (cur (vw h) s y)))) ∧
    (∀ (x1 x2 x3 x4 : Int32) (c o : Int), x1.toInt = s → x2.toInt = y → x3.toInt = c → x4.toInt = o → (0 ≤ c ∧ c < vw h 72 19) → c < o → (inY (vw h) y c ∧ ¬ isAw (vw h) (vw h 88 c) s) → (∀ c' o, 0 ≤ c' → c' < c → c' < o → o < vw h 72 19 → (inY (vw h) y c' ∧ ¬ isAw (vw h) (vw h 88 c') s) → (inY (vw h) y o ∧ ¬ isAw (vw h) (vw h 88 o) s) → ¬ mTr (vw h) c' o) → (∀ o', c < o' → o' < o → (inY (vw h) y o' ∧ ¬ isAw (vw h) (vw h 88 o') s) → ¬ mTr (vw h) c o') → Pt n X zM286 50 [some (.ref 72), some (.int x1), some (.int x2), some (.int x3), some (.int x4)] [] h (qI (fun r h' => h' = h ∧ r = bI (cur (vw h) s y)))) := by
  intro n
  induction n with
  | zero => exact ⟨by intros; exact pt_z, by intros; exact pt_z⟩
  | succ n ih =>
    have step : ∀ (x1 x2 : Int32) (c : Int), x1.toInt = s → x2.toInt = y → 0 ≤ c → c < vw h 72 19 → (∀ c' o, 0 ≤ c' → c' < c → c' < o → o < vw h 72 19 → (inY (vw h) y c' ∧ ¬ isAw (vw h) (vw h 88 c') s) → (inY (vw h) y o ∧ ¬ isAw (vw h) (vw h 88 o) s) → ¬ mTr (vw h) c' o) → (∀ o, c < o → o < vw h 72 19 → (inY (vw h) y c ∧ ¬ isAw (vw h) (vw h 88 c) s) → (inY (vw h) y o ∧ ¬ isAw (vw h) (vw h 88 o) s) → ¬ mTr (vw h) c o) → ∀ (w : Int32) (u : Option Value), w.toInt = w32 (c + 1) → Pt n X zM286 2 [some (.ref 72), some (.int x1), some (.int x2), some (.int w), u] [] h (qI (fun r h' => h' = h ∧ r = bI (cur (vw h) s y))) := by
      intro x1 x2 c h1 h2 c0 cN al z w u g
      replace g := w_1 g (by omega) (by omega)
      refine ih.1 x1 x2 w u (c + 1) h1 h2 g (by omega) (fun c' o a d e f => ?_)
      by_cases q : c' = c
      · rw [q] at e ⊢
        exact z o e f
      · exact al c' o a (by omega) e f
    refine ⟨fun x1 x2 x3 u4 c h1 h2 h3 c0 al => ?_, fun x1 x2 x3 x4 c o h1 h2 h3 h4 hc co yc al nj => ?_⟩
    · refine d286_2 S h1 h2 h3 ⟨fun e => ⟨rfl, (bI_t (fun c' o a d f => al c' o a (by omega) d f)).symm⟩, fun e _ _ => ⟨fun z w u g => step x1 x2 c h1 h2 c0 e al (fun o _ _ q => absurd z q.1.1) w u g, fun z => ⟨fun z2 w u g => step x1 x2 c h1 h2 c0 e al (fun o _ _ q => absurd q.1.2 z2) w u g, fun z2 => ⟨hM, fun z3 w g => ?_, fun z3 w u g => step x1 x2 c h1 h2 c0 e al (fun o _ _ q => absurd z3 q.2) w u g⟩⟩⟩⟩
      replace g := w_1 g (by omega) (by omega)
      exact ih.2 x1 x2 x3 w c (c + 1) h1 h2 h3 g ⟨c0, e⟩ (by omega) ⟨⟨z, z2⟩, z3⟩ al (fun o' a d => by omega)
    · have next : o < vw h 72 19 → ((inY (vw h) y o ∧ ¬ isAw (vw h) (vw h 88 o) s) → ¬ mTr (vw h) c o) → ∀ w : Int32, w.toInt = w32 (o + 1) → Pt n X zM286 50 [some (.ref 72), some (.int x1), some (.int x2), some (.int x3), some (.int w)] [] h (qI (fun r h' => h' = h ∧ r = bI (cur (vw h) s y))) := by
        intro e z w g
        replace g := w_1 g (by omega) (by omega)
        refine ih.2 x1 x2 x3 w c (o + 1) h1 h2 h3 g hc (by omega) yc al (fun o' a d => ?_)
        by_cases q : o' = o
        · rw [q]
          exact z
        · exact nj o' a (by omega)
      exact d286_50 S h1 h2 h3 h4 ⟨fun e w u g => step x1 x2 c h1 h2 hc.1 hc.2 al (fun o' a d _ f => nj o' a (by omega) f) w u g, fun e _ _ => ⟨fun z w g => next e (fun q => absurd z q.1.1) w g, fun z => ⟨fun z2 w g => next e (fun q => absurd q.1.2 z2) w g, fun z2 => ⟨hM, fun z3 w g => next e (fun q => absurd z3 q.2) w g, fun z3 => ⟨hF, fun z4 w g => next e (fun _ => z4) w g, fun z4 => ⟨rfl, (bI_f (fun al2 => al2 c o hc.1 co e yc ⟨⟨z, z2⟩, z3⟩ z4)).symm⟩⟩⟩⟩⟩⟩
theorem c_286 {n : Nat} {X : aX} {h : aH} {x1 x2 : Int32} {a1 a2 : Int} (S : wS h) (z1 : x1.toInt = a1) (z2 : x2.toInt = a2) (hp : ((0 ≤ vw h 72 19 ∧ vw h 72 19 ≤ 300) ∧ ∀ c, 0 ≤ c → c < 300 → 0 ≤ vw h 88 c ∧ vw h 88 c < 150) ∧ 0 ≤ vw h 72 79 ∧ vw h 72 79 ≤ 10) : Pt n X zM286 0 [some (.ref 72), some (.int x1), some (.int x2), none, none] [] h (qI (fun r h' => h' = h ∧ r = bI (cur (vw h) a1 a2))) :=
  pt_d (d286_0 S z1 z2 (fun w u g => (l_286 S hp.1.1 hp.1.2 hp.2 n).1 x1 x2 w u 0 z1 z2 g (Int.le_refl _) (fun c o a d => by omega)))
theorem bit_dn : ∀ s : Fin 1024, s.val ≠ 0 → (0 ≤ bAnd (s.val : Int) (w32 ((s.val : Int) - 1)) ∧ bAnd (s.val : Int) (w32 ((s.val : Int) - 1)) < 1024) ∧ bcn (tb (s.val : Int)) 32 = bcn (tb (bAnd (s.val : Int) (w32 ((s.val : Int) - 1)))) 32 + 1 := by decide +kernel
theorem l_287 {X : aX} {h : aH} {B : Int} (S : wS h) : ∀ (n : Nat) (x0 x1 x2 : Int32), (0 ≤ x2.toInt ∧ x2.toInt < 1024) → 0 ≤ x1.toInt → x1.toInt + bcn (tb x2.toInt) 32 = B → B ≤ 32 → Pt n X zM287 4 [some (.int x0), some (.int x1), some (.int x2)] [] h (qI (fun r h' => h' = h ∧ r = B)) := by
  intro n
  induction n with
  | zero => intros; exact pt_z
  | succ n ih =>
    intro x0 x1 x2 r2 r1 e hB
    have bb := bcn_b (tb x2.toInt) 32
    refine d287_4 S rfl rfl rfl ⟨fun z => ⟨rfl, ?_⟩, fun z w1 w2 g1 g2 => ?_⟩
    · have b0 : bcn (tb 0) 32 = 0 := by decide +kernel
      rw [z, b0] at e
      omega
    · have d := bit_dn ⟨x2.toInt.toNat, by omega⟩ (show x2.toInt.toNat ≠ 0 by omega)
      rw [show (((⟨x2.toInt.toNat, by omega⟩ : Fin 1024).val : Nat) : Int) = x2.toInt by show ((x2.toInt.toNat : Nat) : Int) = x2.toInt; omega] at d
      have b2 := bcn_b (tb (bAnd x2.toInt (w32 (x2.toInt - 1)))) 32
      replace g1 := w_1 g1 (by omega) (by omega)
      refine ih x0 w1 w2 (by rw [g2]; exact d.1) (by omega) ?_ hB
      rw [g2, g1]
      omega
theorem c_287 {n : Nat} {X : aX} {h : aH} {x0 : Int32} {a0 : Int} (S : wS h) (z0 : x0.toInt = a0) (hp : 0 ≤ a0 ∧ a0 < 1024) : Pt n X zM287 0 [some (.int x0), none, none] [] h (qI (fun r h' => h' = h ∧ r = bcn (tb a0) 32)) := by
  have bb := bcn_b (tb a0) 32
  exact pt_d (d287_0 S z0 (fun w1 g1 => l_287 S n x0 w1 x0 (by omega) (by omega) (by rw [g1, z0, Int.zero_add]) bb.2))


-- ===== seasons: the model's faults =====
theorem d239_0 {n : Nat} {X : aX} {h : aH} {P : aH → Prop} {x1 : Int32} {a1 : Int} (S : wS h) (z1 : x1.toInt = a1) (H : ((vw h 72 38 ≠ 0 → ∀ h_5 : aH, wS h_5 → vw h_5 = up (up (vw h) 72 38 0) 72 39 a1 → (∀ (w2 : Int32), w2.toInt = 0 → Pt n X zM239 28 [some (.ref 72), some (.int x1), some (.int w2), none, none] [] h_5 (qN P))) ∧ (vw h 72 38 = 0 → ((vw h 72 39 ≠ a1 → ∀ h_11 : aH, wS h_11 → vw h_11 = up (up (vw h) 72 38 0) 72 39 a1 → (∀ (w2 : Int32), w2.toInt = 0 → Pt n X zM239 28 [some (.ref 72), some (.int x1), some (.int w2), none, none] [] h_11 (qN P))) ∧ (vw h 72 39 = a1 → P h))))) : Pt (n + 1) X zM239 0 [some (.ref 72), some (.int x1), none, none, none] [] h (qN P) := by
  refine pt_1 (fun n d => r_aloadn gx239_0 rfl) ?_
  refine pt_d (pt_getI (B := 38) gx239_1 S (fun v1 h1 => ?_))
  refine pt_d (pt_if_ne gx239_4 h1 (fun e2 => ?_) (fun e2 => ?_))
  · have H := H.1 e2
    refine pt_d (pt_1 (fun n d => r_aloadn gx239_16 rfl) ?_)
    refine pt_d (pt_iconst gx239_17 (fun v3 h3 => ?_))
    refine pt_d (pt_putI (B := 38) gx239_18 S h3 (fun h_4 S4 e4 => ?_))
    refine pt_d (pt_1 (fun n d => r_aloadn gx239_21 rfl) ?_)
    refine pt_d (pt_1 (fun n d => r_iloadn gx239_22 rfl) ?_)
    refine pt_d (pt_putI (B := 39) gx239_23 S4 z1 (fun h_5 S5 e5 => ?_))
    refine pt_d (pt_iconst gx239_26 (fun v6 h6 => ?_))
    refine pt_d (pt_1 (fun n d => r_istoren (L' := [some (.ref 72), some (.int x1), some (.int v6), none, none]) gx239_27 rfl rfl) ?_)
    have H := H h_5 S5 (by rw [e5, e4])
    exact H v6 h6
  · have H := H.2 e2
    refine pt_d (pt_1 (fun n d => r_aloadn gx239_7 rfl) ?_)
    refine pt_d (pt_getI (B := 39) gx239_8 S (fun v7 h7 => ?_))
    refine pt_d (pt_1 (fun n d => r_iloadn gx239_11 rfl) ?_)
    refine pt_d (pt_icmp_ne gx239_12 h7 z1 (fun e8 => ?_) (fun e8 => ?_))
    · have H := H.1 e8
      refine pt_d (pt_1 (fun n d => r_aloadn gx239_16 rfl) ?_)
      refine pt_d (pt_iconst gx239_17 (fun v9 h9 => ?_))
      refine pt_d (pt_putI (B := 38) gx239_18 S h9 (fun h_10 S10 e10 => ?_))
      refine pt_d (pt_1 (fun n d => r_aloadn gx239_21 rfl) ?_)
      refine pt_d (pt_1 (fun n d => r_iloadn gx239_22 rfl) ?_)
      refine pt_d (pt_putI (B := 39) gx239_23 S10 z1 (fun h_11 S11 e11 => ?_))
      refine pt_d (pt_iconst gx239_26 (fun v12 h12 => ?_))
      refine pt_d (pt_1 (fun n d => r_istoren (L' := [some (.ref 72), some (.int x1), some (.int v12), none, none]) gx239_27 rfl rfl) ?_)
      have H := H h_11 S11 (by rw [e11, e10])
      exact H v12 h12
    · have H := H.2 e8
      exact pt_d (pt_vret gx239_15 ⟨rfl, H⟩)
theorem d239_28 {n : Nat} {X : aX} {h : aH} {P : aH → Prop} {x1 x2 : Int32} {a1 a2 : Int} (S : wS h) (z1 : x1.toInt = a1) (z2 : x2.toInt = a2) (H : ((vw h 72 19 ≤ a2 → (∀ (w2 : Int32) (u3_ : Option Value) (u4_ : Option Value), w2.toInt = 0 → Pt n X zM239 56 [some (.ref 72), some (.int x1), some (.int w2), u3_, u4_] [] h (qN P))) ∧ (a2 < vw h 72 19 → ((0 ≤ vw h 72 19 ∧ vw h 72 19 ≤ 300) ∧ (0 ≤ a2 → a2 < 300 → ∀ h_6 : aH, wS h_6 → vw h_6 = up (vw h) 103 a2 (bAnd (bI (mcn (vw h) a2 a1)) 1) → (∀ (w2 : Int32), w2.toInt = w32 (a2 + 1) → Pt n X zM239 28 [some (.ref 72), some (.int x1), some (.int w2), none, none] [] h_6 (qN P))))))) : Pt (n + 1) X zM239 28 [some (.ref 72), some (.int x1), some (.int x2), none, none] [] h (qN P) := by
  refine pt_1 (fun n d => r_iloadn gx239_28 rfl) ?_
  refine pt_d (pt_1 (fun n d => r_aloadn gx239_29 rfl) ?_)
  refine pt_d (pt_getI (B := 19) gx239_30 S (fun v1 h1 => ?_))
  refine pt_d (pt_icmp_ge gx239_33 z2 h1 (fun e2 => ?_) (fun e2 => ?_))
  · have H := H.1 e2
    refine pt_d (pt_iconst gx239_54 (fun v3 h3 => ?_))
    refine pt_d (pt_1 (fun n d => r_istoren (L' := [some (.ref 72), some (.int x1), some (.int v3), none, none]) gx239_55 rfl rfl) ?_)
    exact H v3 _ _ h3
  · have H := H.2 e2
    refine pt_d (pt_1 (fun n d => r_aloadn gx239_36 rfl) ?_)
    refine pt_d (pt_getR gx239_37 S tr_72_40 ?_)
    refine pt_d (pt_1 (fun n d => r_iloadn gx239_40 rfl) ?_)
    refine pt_d (pt_1 (fun n d => r_aloadn gx239_41 rfl) ?_)
    refine pt_d (pt_1 (fun n d => r_iloadn gx239_42 rfl) ?_)
    refine pt_d (pt_1 (fun n d => r_iloadn gx239_43 rfl) ?_)
    obtain ⟨pr5, H⟩ := H
    refine pt_d (pt_virt (as := [.int x2, .int x1]) (r := [.int x2, .ref 103]) gx239_44 rfl (show zmt[234]? = some zM234 from rfl) rfl rfl rfl rfl (c_234 S z2 z1 pr5) (kqP (fun v5 h5 => ?_)))
    show Pt _ _ _ 47 _ [.int v5, .int x2, .ref 103] _ _
    refine pt_d (pt_zast (N' := 300) gx239_47 S tl_103 z2 h5 (fun h_6 S6 p6 q6 e6 => ?_))
    have H := H p6 q6
    refine pt_d (pt_iinc (c := 1) gx239_48 rfl z2 (fun v7 h7 => ?_))
    show Pt _ _ _ _ [some (.ref 72), some (.int x1), some (.int v7), none, none] [] _ _
    refine pt_d (pt_1 (fun n d => r_goto gx239_51) ?_)
    have H := H h_6 S6 (by rw [e6])
    exact H v7 h7
theorem d239_56 {n : Nat} {X : aX} {h : aH} {P : aH → Prop} {x1 x2 : Int32} {a1 a2 : Int} {u3 u4 : Option Value} (S : wS h) (z1 : x1.toInt = a1) (z2 : x2.toInt = a2) (H : ((10 ≤ a2 → P h) ∧ (a2 < 10 → (((0 ≤ vw h 72 19 ∧ vw h 72 19 ≤ 300) ∧ (0 ≤ vw h 72 25 ∧ vw h 72 25 ≤ 40) ∧ ∀ c, 0 ≤ c → c < 300 → 0 ≤ vw h 87 c) ∧ ∀ (h_3 : aH), (wS h_3 ∧ R236 (vw h) a2 a1 (vw h_3)) → (∀ (w3 : Int32) (u4_ : Option Value), w3.toInt = 0 → Pt n X zM239 70 [some (.ref 72), some (.int x1), some (.int x2), some (.int w3), u4_] [] h_3 (qN P)))))) : Pt (n + 1) X zM239 56 [some (.ref 72), some (.int x1), some (.int x2), u3, u4] [] h (qN P) := by
  refine pt_1 (fun n d => r_iloadn gx239_56 rfl) ?_
  refine pt_d (pt_bipush gx239_57 (fun v1 h1 => ?_))
  refine pt_d (pt_icmp_ge gx239_59 z2 h1 (fun e2 => ?_) (fun e2 => ?_))
  · have H := H.1 e2
    exact pt_d (pt_vret gx239_149 ⟨rfl, H⟩)
  · have H := H.2 e2
    refine pt_d (pt_1 (fun n d => r_aloadn gx239_62 rfl) ?_)
    refine pt_d (pt_1 (fun n d => r_iloadn gx239_63 rfl) ?_)
    refine pt_d (pt_1 (fun n d => r_iloadn gx239_64 rfl) ?_)
    obtain ⟨pr3, H⟩ := H
    refine pt_d (pt_virt (as := [.int x2, .int x1]) (r := []) gx239_65 rfl (show zmt[236]? = some zM236 from rfl) rfl rfl rfl rfl (c_236 S z2 z1 pr3) (kqN (fun h_3 P3 => ?_)))
    have S3 := P3.1
    have H := H h_3 P3
    show Pt _ _ _ 68 _ [] _ _
    refine pt_d (pt_iconst gx239_68 (fun v4 h4 => ?_))
    refine pt_d (pt_1 (fun n d => r_istoren (L' := [some (.ref 72), some (.int x1), some (.int x2), some (.int v4), u4]) gx239_69 rfl rfl) ?_)
    exact H v4 _ h4
theorem d239_70 {n : Nat} {X : aX} {h : aH} {P : aH → Prop} {x1 x2 x3 : Int32} {a1 a2 a3 : Int} {u4 : Option Value} (S : wS h) (z1 : x1.toInt = a1) (z2 : x2.toInt = a2) (z3 : x3.toInt = a3) (H : ((vw h 72 19 ≤ a3 → (∀ (w2 : Int32) (u3_ : Option Value) (u4_ : Option Value), w2.toInt = w32 (a2 + 1) → Pt n X zM239 56 [some (.ref 72), some (.int x1), some (.int w2), u3_, u4_] [] h (qN P))) ∧ (a3 < vw h 72 19 → (0 ≤ a3 → a3 < 300 → ((vw h 103 a3 = 0 → (∀ (w3 : Int32) (u4_ : Option Value), w3.toInt = w32 (a3 + 1) → Pt n X zM239 70 [some (.ref 72), some (.int x1), some (.int x2), some (.int w3), u4_] [] h (qN P))) ∧ (vw h 103 a3 ≠ 0 → ((iDiv ((vw h) 90 a3) 365 = a2 → (((0 ≤ vw h 72 19 ∧ vw h 72 19 ≤ 300) ∧ 0 ≤ a3 ∧ a3 < 300) ∧ ∀ (h_10 : aH), (wS h_10 ∧ R238 (vw h) a3 a2 (vw h_10)) → ((0 ≤ vw h_10 72 32 ∧ vw h_10 72 32 ≤ 200) ∧ ((0 ≤ w32 ((vw h_10 104 a3) - (mmg (vw h_10) a3 a1 ((vw h_10) 72 32).toNat)) → ∀ h_17 : aH, wS h_17 → vw h_17 = up (vw h_10) 105 a3 (w32 ((vw h_10 104 a3) - (mmg (vw h_10) a3 a1 ((vw h_10) 72 32).toNat))) → (∀ (w3 : Int32) (u4_ : Option Value), w3.toInt = w32 (a3 + 1) → Pt n X zM239 70 [some (.ref 72), some (.int x1), some (.int x2), some (.int w3), u4_] [] h_17 (qN P))) ∧ (w32 ((vw h_10 104 a3) - (mmg (vw h_10) a3 a1 ((vw h_10) 72 32).toNat)) < 0 → ∀ h_20 : aH, wS h_20 → vw h_20 = up (vw h_10) 105 a3 0 → (∀ (w3 : Int32) (u4_ : Option Value), w3.toInt = w32 (a3 + 1) → Pt n X zM239 70 [some (.ref 72), some (.int x1), some (.int x2), some (.int w3), u4_] [] h_20 (qN P))))))) ∧ (iDiv ((vw h) 90 a3) 365 ≠ a2 → (∀ (w3 : Int32) (u4_ : Option Value), w3.toInt = w32 (a3 + 1) → Pt n X zM239 70 [some (.ref 72), some (.int x1), some (.int x2), some (.int w3), u4_] [] h (qN P)))))))))) : Pt (n + 1) X zM239 70 [some (.ref 72), some (.int x1), some (.int x2), some (.int x3), u4] [] h (qN P) := by
  refine pt_1 (fun n d => r_iloadn gx239_70 rfl) ?_
  refine pt_d (pt_1 (fun n d => r_aloadn gx239_71 rfl) ?_)
  refine pt_d (pt_getI (B := 19) gx239_72 S (fun v1 h1 => ?_))
  refine pt_d (pt_icmp_ge gx239_75 z3 h1 (fun e2 => ?_) (fun e2 => ?_))
  · have H := H.1 e2
    refine pt_d (pt_iinc (c := 1) gx239_143 rfl z2 (fun v3 h3 => ?_))
    show Pt _ _ _ _ [some (.ref 72), some (.int x1), some (.int v3), some (.int x3), u4] [] _ _
    refine pt_d (pt_1 (fun n d => r_goto gx239_146) ?_)
    exact H v3 _ _ h3
  · have H := H.2 e2
    refine pt_d (pt_1 (fun n d => r_aloadn gx239_78 rfl) ?_)
    refine pt_d (pt_getR gx239_79 S tr_72_40 ?_)
    refine pt_d (pt_1 (fun n d => r_iloadn gx239_82 rfl) ?_)
    refine pt_d (pt_zald (N' := 300) gx239_83 S tl_103 z3 (fun v5 p5 q5 h5 => ?_))
    have H := H p5 q5
    refine pt_d (pt_if_eq gx239_84 h5 (fun e6 => ?_) (fun e6 => ?_))
    · have H := H.1 e6
      refine pt_d (pt_iinc (c := 1) gx239_137 rfl z3 (fun v7 h7 => ?_))
      show Pt _ _ _ _ [some (.ref 72), some (.int x1), some (.int x2), some (.int v7), u4] [] _ _
      refine pt_d (pt_1 (fun n d => r_goto gx239_140) ?_)
      exact H v7 _ h7
    · have H := H.2 e6
      refine pt_d (pt_1 (fun n d => r_aloadn gx239_87 rfl) ?_)
      refine pt_d (pt_1 (fun n d => r_iloadn gx239_88 rfl) ?_)
      refine pt_d (pt_virt (as := [.int x3]) (r := []) gx239_89 rfl (show zmt[229]? = some zM229 from rfl) rfl rfl rfl rfl (c_229 S z3) (kqP (fun v8 h8 => ?_)))
      show Pt _ _ _ 92 _ [.int v8] _ _
      refine pt_d (pt_1 (fun n d => r_iloadn gx239_92 rfl) ?_)
      refine pt_d (pt_icmp_eq gx239_93 h8 z2 (fun e9 => ?_) (fun e9 => ?_))
      · have H := H.1 e9
        refine pt_d (pt_1 (fun n d => r_aloadn gx239_99 rfl) ?_)
        refine pt_d (pt_1 (fun n d => r_iloadn gx239_100 rfl) ?_)
        refine pt_d (pt_1 (fun n d => r_iloadn gx239_101 rfl) ?_)
        obtain ⟨pr10, H⟩ := H
        refine pt_d (pt_virt (as := [.int x3, .int x2]) (r := []) gx239_102 rfl (show zmt[238]? = some zM238 from rfl) rfl rfl rfl rfl (c_238 S z3 z2 pr10) (kqN (fun h_10 P10 => ?_)))
        have S10 := P10.1
        have H := H h_10 P10
        show Pt _ _ _ 105 _ [] _ _
        refine pt_d (pt_1 (fun n d => r_aloadn gx239_105 rfl) ?_)
        refine pt_d (pt_getR gx239_106 S10 tr_72_41 ?_)
        refine pt_d (pt_1 (fun n d => r_iloadn gx239_109 rfl) ?_)
        refine pt_d (pt_iald (N' := 300) gx239_110 S10 tl_104 z3 (fun v12 p12 q12 h12 => ?_))
        refine pt_d (pt_1 (fun n d => r_aloadn gx239_111 rfl) ?_)
        refine pt_d (pt_1 (fun n d => r_iloadn gx239_112 rfl) ?_)
        refine pt_d (pt_1 (fun n d => r_iloadn gx239_113 rfl) ?_)
        obtain ⟨pr13, H⟩ := H
        refine pt_d (pt_virt (as := [.int x3, .int x1]) (r := [.int v12]) gx239_114 rfl (show zmt[237]? = some zM237 from rfl) rfl rfl rfl rfl (c_237 S10 z3 z1 pr13) (kqP (fun v13 h13 => ?_)))
        show Pt _ _ _ 117 _ [.int v13, .int v12] _ _
        refine pt_d (pt_isub gx239_117 h12 h13 (fun v14 h14 => ?_))
        refine pt_d (pt_1 (fun n d => r_istore (L' := [some (.ref 72), some (.int x1), some (.int x2), some (.int x3), some (.int v14)]) gx239_118 rfl rfl) ?_)
        refine pt_d (pt_1 (fun n d => r_aloadn gx239_120 rfl) ?_)
        refine pt_d (pt_getR gx239_121 S10 tr_72_42 ?_)
        refine pt_d (pt_1 (fun n d => r_iloadn gx239_124 rfl) ?_)
        refine pt_d (pt_1 (fun n d => r_iload gx239_125 rfl) ?_)
        refine pt_d (pt_if_ge gx239_127 h14 (fun e16 => ?_) (fun e16 => ?_))
        · have H := H.1 e16
          refine pt_d (pt_1 (fun n d => r_iload gx239_134 rfl) ?_)
          refine pt_d (pt_iast (N' := 300) gx239_136 S10 tl_105 z3 h14 (fun h_17 S17 p17 q17 e17 => ?_))
          refine pt_d (pt_iinc (c := 1) gx239_137 rfl z3 (fun v18 h18 => ?_))
          show Pt _ _ _ _ [some (.ref 72), some (.int x1), some (.int x2), some (.int v18), some (.int v14)] [] _ _
          refine pt_d (pt_1 (fun n d => r_goto gx239_140) ?_)
          have H := H h_17 S17 (by rw [e17])
          exact H v18 _ h18
        · have H := H.2 e16
          refine pt_d (pt_iconst gx239_130 (fun v19 h19 => ?_))
          refine pt_d (pt_1 (fun n d => r_goto gx239_131) ?_)
          refine pt_d (pt_iast (N' := 300) gx239_136 S10 tl_105 z3 h19 (fun h_20 S20 p20 q20 e20 => ?_))
          refine pt_d (pt_iinc (c := 1) gx239_137 rfl z3 (fun v21 h21 => ?_))
          show Pt _ _ _ _ [some (.ref 72), some (.int x1), some (.int x2), some (.int v21), some (.int v14)] [] _ _
          refine pt_d (pt_1 (fun n d => r_goto gx239_140) ?_)
          have H := H h_20 S20 (by rw [e20])
          exact H v21 _ h21
      · have H := H.2 e9
        refine pt_d (pt_1 (fun n d => r_goto gx239_96) ?_)
        refine pt_d (pt_iinc (c := 1) gx239_137 rfl z3 (fun v22 h22 => ?_))
        show Pt _ _ _ _ [some (.ref 72), some (.int x1), some (.int x2), some (.int v22), u4] [] _ _
        refine pt_d (pt_1 (fun n d => r_goto gx239_140) ?_)
        exact H v22 _ h22

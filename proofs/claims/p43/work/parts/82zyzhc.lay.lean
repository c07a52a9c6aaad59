-- ===== 82zyzhc.lay: 6 texts =====
section
-- ===== the reference lays a text out =====
abbrev mv256 (n : Nat) (X : aX) : Prop := ∀ {h : aH}, wS h → mpre (vw h) ∧ kpre (vw h) → Pt n X zM256 0 [some (.ref 72), none, none, none] [] h (qN (fun h' => wS h' ∧ mRes 0 (vw h) (vw h') ∧ kRes 0 (vw h) (vw h')))
abbrev mv257 (n : Nat) (X : aX) : Prop := ∀ {h : aH}, wS h → mpre (vw h) ∧ kpre (vw h) → Pt n X zM257 0 [some (.ref 72), none] [] h (qN (fun h' => wS h' ∧ mRes 1 (vw h) (vw h') ∧ kRes 1 (vw h) (vw h')))
abbrev mv258 (n : Nat) (X : aX) : Prop := ∀ {h : aH}, wS h → mpre (vw h) ∧ kpre (vw h) → Pt n X zM258 0 [some (.ref 72), none] [] h (qN (fun h' => wS h' ∧ mRes 3 (vw h) (vw h') ∧ kRes 3 (vw h) (vw h')))
abbrev mv259 (n : Nat) (X : aX) : Prop := ∀ {h : aH}, wS h → mpre (vw h) ∧ kpre (vw h) → Pt n X zM259 0 [some (.ref 72), none] [] h (qN (fun h' => wS h' ∧ mRes 5 (vw h) (vw h') ∧ kRes 5 (vw h) (vw h')))
abbrev mv260 (n : Nat) (X : aX) : Prop := ∀ {h : aH}, wS h → mpre (vw h) ∧ kpre (vw h) → Pt n X zM260 0 [some (.ref 72)] [] h (qN (fun h' => wS h' ∧ mRes 6 (vw h) (vw h') ∧ kRes 6 (vw h) (vw h')))
abbrev mv261 (n : Nat) (X : aX) : Prop := ∀ {h : aH}, wS h → mpre (vw h) ∧ kpre (vw h) → Pt n X zM261 0 [some (.ref 72)] [] h (qN (fun h' => wS h' ∧ mRes 8 (vw h) (vw h') ∧ kRes 8 (vw h) (vw h')))
abbrev mw257 (n : Nat) (X : aX) : Prop := ∀ {h : aH} {u1 : Option Value}, wS h → mlp (vw h) → kpre (vw h) → Pt n X zM257 4 [some (.ref 72), u1] [] h (qN (fun h' => wS h' ∧ mLo 2 (vw h) (vw h') ∧ kLo 2 (vw h) (vw h')))
abbrev mw258 (n : Nat) (X : aX) : Prop := ∀ {h : aH} {u1 : Option Value}, wS h → mlp (vw h) → kpre (vw h) → Pt n X zM258 4 [some (.ref 72), u1] [] h (qN (fun h' => wS h' ∧ mLo 4 (vw h) (vw h') ∧ kLo 4 (vw h) (vw h')))
abbrev mw260 (n : Nat) (X : aX) : Prop := ∀ {h : aH} , wS h → mlp (vw h) → kpre (vw h) → Pt n X zM260 4 [some (.ref 72)] [] h (qN (fun h' => wS h' ∧ mLo 7 (vw h) (vw h') ∧ kLo 7 (vw h) (vw h')))
abbrev mw261 (n : Nat) (X : aX) : Prop := ∀ {h : aH} , wS h → mlp (vw h) → kpre (vw h) → Pt n X zM261 4 [some (.ref 72)] [] h (qN (fun h' => wS h' ∧ mLo 9 (vw h) (vw h') ∧ kLo 9 (vw h) (vw h')))
theorem y257_0 {n : Nat} {X : aX} {h : aH} {P : aH → Prop} (S : wS h) (K256 : mv256 n X) (H : ((mpre (vw h) ∧ kpre (vw h)) ∧ ∀ (h_1 : aH), (wS h_1 ∧ mRes 0 (vw h) (vw h_1) ∧ kRes 0 (vw h) (vw h_1)) → (∀ (u1_ : Option Value), Pt n X zM257 4 [some (.ref 72), u1_] [] h_1 (qN P)))) : Pt (n + 1) X zM257 0 [some (.ref 72), none] [] h (qN P) := by
  refine pt_1 (fun n d => r_aloadn gx257_0 rfl) ?_
  obtain ⟨pr1, H⟩ := H
  refine pt_d (pt_virt (as := []) (r := []) gx257_1 rfl (show zmt[256]? = some zM256 from rfl) rfl rfl rfl rfl (K256 S pr1) (kqN (fun h_1 P1 => ?_)))
  have S1 := P1.1
  have H := H h_1 P1
  show Pt _ _ _ 4 _ [] _ _
  exact H _
theorem y257_4 {n : Nat} {X : aX} {h : aH} {P : aH → Prop} {u1 : Option Value} (S : wS h) (K256 : mv256 n X) (H : ((0 ≤ vw h 72 65 → P h) ∧ (vw h 72 65 < 0 → ((mL (vw h) = 42 → ∀ h_10 : aH, wS h_10 → vw h_10 = up (vw h) 72 64 (w32 ((vw h 72 64) + 1)) → ((mpre (vw h_10) ∧ kpre (vw h_10)) ∧ ∀ (h_11 : aH), (wS h_11 ∧ mRes 0 (vw h_10) (vw h_11) ∧ kRes 0 (vw h_10) (vw h_11)) → ∀ (h_13 : aH), (wS h_13 ∧ RLay (vw h_11) (mL (vw h)) 0 (vw h_13)) → (∀ (u1_ : Option Value), Pt n X zM257 4 [some (.ref 72), u1_] [] h_13 (qN P)))) ∧ (mL (vw h) ≠ 42 → ((mL (vw h) = 47 → ∀ h_21 : aH, wS h_21 → vw h_21 = up (vw h) 72 64 (w32 ((vw h 72 64) + 1)) → ((mpre (vw h_21) ∧ kpre (vw h_21)) ∧ ∀ (h_22 : aH), (wS h_22 ∧ mRes 0 (vw h_21) (vw h_22) ∧ kRes 0 (vw h_21) (vw h_22)) → ∀ (h_24 : aH), (wS h_24 ∧ RLay (vw h_22) (mL (vw h)) 0 (vw h_24)) → (∀ (u1_ : Option Value), Pt n X zM257 4 [some (.ref 72), u1_] [] h_24 (qN P)))) ∧ (mL (vw h) ≠ 47 → ((mL (vw h) ≠ 37 → P h) ∧ (mL (vw h) = 37 → ∀ h_32 : aH, wS h_32 → vw h_32 = up (vw h) 72 64 (w32 ((vw h 72 64) + 1)) → ((mpre (vw h_32) ∧ kpre (vw h_32)) ∧ ∀ (h_33 : aH), (wS h_33 ∧ mRes 0 (vw h_32) (vw h_33) ∧ kRes 0 (vw h_32) (vw h_33)) → ∀ (h_35 : aH), (wS h_35 ∧ RLay (vw h_33) (mL (vw h)) 0 (vw h_35)) → (∀ (u1_ : Option Value), Pt n X zM257 4 [some (.ref 72), u1_] [] h_35 (qN P)))))))))))) : Pt (n + 1) X zM257 4 [some (.ref 72), u1] [] h (qN P) := by
  refine pt_1 (fun n d => r_aloadn gx257_4 rfl) ?_
  refine pt_d (pt_getI (B := 65) gx257_5 S (fun v1 h1 => ?_))
  refine pt_d (pt_if_ge gx257_8 h1 (fun e2 => ?_) (fun e2 => ?_))
  · have H := H.1 e2
    exact pt_d (pt_vret gx257_66 ⟨rfl, H⟩)
  · have H := H.2 e2
    refine pt_d (pt_1 (fun n d => r_aloadn gx257_11 rfl) ?_)
    refine pt_d (pt_virt (as := []) (r := []) gx257_12 rfl (show zmt[251]? = some zM251 from rfl) rfl rfl rfl rfl (c_251 S) (kqP (fun v3 h3 => ?_)))
    show Pt _ _ _ 15 _ [.int v3] _ _
    refine pt_d (pt_bipush gx257_15 (fun v4 h4 => ?_))
    refine pt_d (pt_icmp_eq gx257_17 h3 h4 (fun e5 => ?_) (fun e5 => ?_))
    · have H := H.1 e5
      refine pt_d (pt_1 (fun n d => r_aloadn gx257_38 rfl) ?_)
      refine pt_d (pt_virt (as := []) (r := []) gx257_39 rfl (show zmt[251]? = some zM251 from rfl) rfl rfl rfl rfl (c_251 S) (kqP (fun v6 h6 => ?_)))
      show Pt _ _ _ 42 _ [.int v6] _ _
      refine pt_d (pt_1 (fun n d => r_istoren (L' := [some (.ref 72), some (.int v6)]) gx257_42 rfl rfl) ?_)
      refine pt_d (pt_1 (fun n d => r_aloadn gx257_43 rfl) ?_)
      refine pt_d (pt_1 (fun n d => r_dup gx257_44 rfl) ?_)
      refine pt_d (pt_getI (B := 64) gx257_45 S (fun v7 h7 => ?_))
      refine pt_d (pt_iconst gx257_48 (fun v8 h8 => ?_))
      refine pt_d (pt_iadd gx257_49 h7 h8 (fun v9 h9 => ?_))
      refine pt_d (pt_putI (B := 64) gx257_50 S h9 (fun h_10 S10 e10 => ?_))
      refine pt_d (pt_1 (fun n d => r_aloadn gx257_53 rfl) ?_)
      have H := H h_10 S10 (by rw [e10])
      obtain ⟨pr11, H⟩ := H
      refine pt_d (pt_virt (as := []) (r := []) gx257_54 rfl (show zmt[256]? = some zM256 from rfl) rfl rfl rfl rfl (K256 S10 pr11) (kqN (fun h_11 P11 => ?_)))
      have S11 := P11.1
      have H := H h_11 P11
      show Pt _ _ _ 57 _ [] _ _
      refine pt_d (pt_1 (fun n d => r_aloadn gx257_57 rfl) ?_)
      refine pt_d (pt_1 (fun n d => r_iloadn gx257_58 rfl) ?_)
      refine pt_d (pt_iconst gx257_59 (fun v12 h12 => ?_))
      refine pt_d (pt_virt (as := [.int v6, .int v12]) (r := []) gx257_60 rfl (show zmt[253]? = some zM253 from rfl) rfl rfl rfl rfl (c_253v S11 h6 h12) (kqN (fun h_13 P13 => ?_)))
      have S13 := P13.1
      have H := H h_13 P13
      show Pt _ _ _ 63 _ [] _ _
      refine pt_d (pt_1 (fun n d => r_goto gx257_63) ?_)
      exact H _
    · have H := H.2 e5
      refine pt_d (pt_1 (fun n d => r_aloadn gx257_20 rfl) ?_)
      refine pt_d (pt_virt (as := []) (r := []) gx257_21 rfl (show zmt[251]? = some zM251 from rfl) rfl rfl rfl rfl (c_251 S) (kqP (fun v14 h14 => ?_)))
      show Pt _ _ _ 24 _ [.int v14] _ _
      refine pt_d (pt_bipush gx257_24 (fun v15 h15 => ?_))
      refine pt_d (pt_icmp_eq gx257_26 h14 h15 (fun e16 => ?_) (fun e16 => ?_))
      · have H := H.1 e16
        refine pt_d (pt_1 (fun n d => r_aloadn gx257_38 rfl) ?_)
        refine pt_d (pt_virt (as := []) (r := []) gx257_39 rfl (show zmt[251]? = some zM251 from rfl) rfl rfl rfl rfl (c_251 S) (kqP (fun v17 h17 => ?_)))
        show Pt _ _ _ 42 _ [.int v17] _ _
        refine pt_d (pt_1 (fun n d => r_istoren (L' := [some (.ref 72), some (.int v17)]) gx257_42 rfl rfl) ?_)
        refine pt_d (pt_1 (fun n d => r_aloadn gx257_43 rfl) ?_)
        refine pt_d (pt_1 (fun n d => r_dup gx257_44 rfl) ?_)
        refine pt_d (pt_getI (B := 64) gx257_45 S (fun v18 h18 => ?_))
        refine pt_d (pt_iconst gx257_48 (fun v19 h19 => ?_))
        refine pt_d (pt_iadd gx257_49 h18 h19 (fun v20 h20 => ?_))
        refine pt_d (pt_putI (B := 64) gx257_50 S h20 (fun h_21 S21 e21 => ?_))
        refine pt_d (pt_1 (fun n d => r_aloadn gx257_53 rfl) ?_)
        have H := H h_21 S21 (by rw [e21])
        obtain ⟨pr22, H⟩ := H
        refine pt_d (pt_virt (as := []) (r := []) gx257_54 rfl (show zmt[256]? = some zM256 from rfl) rfl rfl rfl rfl (K256 S21 pr22) (kqN (fun h_22 P22 => ?_)))
        have S22 := P22.1
        have H := H h_22 P22
        show Pt _ _ _ 57 _ [] _ _
        refine pt_d (pt_1 (fun n d => r_aloadn gx257_57 rfl) ?_)
        refine pt_d (pt_1 (fun n d => r_iloadn gx257_58 rfl) ?_)
        refine pt_d (pt_iconst gx257_59 (fun v23 h23 => ?_))
        refine pt_d (pt_virt (as := [.int v17, .int v23]) (r := []) gx257_60 rfl (show zmt[253]? = some zM253 from rfl) rfl rfl rfl rfl (c_253v S22 h17 h23) (kqN (fun h_24 P24 => ?_)))
        have S24 := P24.1
        have H := H h_24 P24
        show Pt _ _ _ 63 _ [] _ _
        refine pt_d (pt_1 (fun n d => r_goto gx257_63) ?_)
        exact H _
      · have H := H.2 e16
        refine pt_d (pt_1 (fun n d => r_aloadn gx257_29 rfl) ?_)
        refine pt_d (pt_virt (as := []) (r := []) gx257_30 rfl (show zmt[251]? = some zM251 from rfl) rfl rfl rfl rfl (c_251 S) (kqP (fun v25 h25 => ?_)))
        show Pt _ _ _ 33 _ [.int v25] _ _
        refine pt_d (pt_bipush gx257_33 (fun v26 h26 => ?_))
        refine pt_d (pt_icmp_ne gx257_35 h25 h26 (fun e27 => ?_) (fun e27 => ?_))
        · have H := H.1 e27
          exact pt_d (pt_vret gx257_66 ⟨rfl, H⟩)
        · have H := H.2 e27
          refine pt_d (pt_1 (fun n d => r_aloadn gx257_38 rfl) ?_)
          refine pt_d (pt_virt (as := []) (r := []) gx257_39 rfl (show zmt[251]? = some zM251 from rfl) rfl rfl rfl rfl (c_251 S) (kqP (fun v28 h28 => ?_)))
          show Pt _ _ _ 42 _ [.int v28] _ _
          refine pt_d (pt_1 (fun n d => r_istoren (L' := [some (.ref 72), some (.int v28)]) gx257_42 rfl rfl) ?_)
          refine pt_d (pt_1 (fun n d => r_aloadn gx257_43 rfl) ?_)
          refine pt_d (pt_1 (fun n d => r_dup gx257_44 rfl) ?_)
          refine pt_d (pt_getI (B := 64) gx257_45 S (fun v29 h29 => ?_))
          refine pt_d (pt_iconst gx257_48 (fun v30 h30 => ?_))
          refine pt_d (pt_iadd gx257_49 h29 h30 (fun v31 h31 => ?_))
          refine pt_d (pt_putI (B := 64) gx257_50 S h31 (fun h_32 S32 e32 => ?_))
          refine pt_d (pt_1 (fun n d => r_aloadn gx257_53 rfl) ?_)
          have H := H h_32 S32 (by rw [e32])
          obtain ⟨pr33, H⟩ := H
          refine pt_d (pt_virt (as := []) (r := []) gx257_54 rfl (show zmt[256]? = some zM256 from rfl) rfl rfl rfl rfl (K256 S32 pr33) (kqN (fun h_33 P33 => ?_)))
          have S33 := P33.1
          have H := H h_33 P33
          show Pt _ _ _ 57 _ [] _ _
          refine pt_d (pt_1 (fun n d => r_aloadn gx257_57 rfl) ?_)
          refine pt_d (pt_1 (fun n d => r_iloadn gx257_58 rfl) ?_)
          refine pt_d (pt_iconst gx257_59 (fun v34 h34 => ?_))
          refine pt_d (pt_virt (as := [.int v28, .int v34]) (r := []) gx257_60 rfl (show zmt[253]? = some zM253 from rfl) rfl rfl rfl rfl (c_253v S33 h28 h34) (kqN (fun h_35 P35 => ?_)))
          have S35 := P35.1
          have H := H h_35 P35
          show Pt _ _ _ 63 _ [] _ _
          refine pt_d (pt_1 (fun n d => r_goto gx257_63) ?_)
          exact H _
theorem y258_0 {n : Nat} {X : aX} {h : aH} {P : aH → Prop} (S : wS h) (K257 : mv257 n X) (H : ((mpre (vw h) ∧ kpre (vw h)) ∧ ∀ (h_1 : aH), (wS h_1 ∧ mRes 1 (vw h) (vw h_1) ∧ kRes 1 (vw h) (vw h_1)) → (∀ (u1_ : Option Value), Pt n X zM258 4 [some (.ref 72), u1_] [] h_1 (qN P)))) : Pt (n + 1) X zM258 0 [some (.ref 72), none] [] h (qN P) := by
  refine pt_1 (fun n d => r_aloadn gx258_0 rfl) ?_
  obtain ⟨pr1, H⟩ := H
  refine pt_d (pt_virt (as := []) (r := []) gx258_1 rfl (show zmt[257]? = some zM257 from rfl) rfl rfl rfl rfl (K257 S pr1) (kqN (fun h_1 P1 => ?_)))
  have S1 := P1.1
  have H := H h_1 P1
  show Pt _ _ _ 4 _ [] _ _
  exact H _
theorem y258_4 {n : Nat} {X : aX} {h : aH} {P : aH → Prop} {u1 : Option Value} (S : wS h) (K257 : mv257 n X) (H : ((0 ≤ vw h 72 65 → P h) ∧ (vw h 72 65 < 0 → ((mL (vw h) = 43 → ∀ h_10 : aH, wS h_10 → vw h_10 = up (vw h) 72 64 (w32 ((vw h 72 64) + 1)) → ((mpre (vw h_10) ∧ kpre (vw h_10)) ∧ ∀ (h_11 : aH), (wS h_11 ∧ mRes 1 (vw h_10) (vw h_11) ∧ kRes 1 (vw h_10) (vw h_11)) → ∀ (h_13 : aH), (wS h_13 ∧ RLay (vw h_11) (mL (vw h)) 0 (vw h_13)) → (∀ (u1_ : Option Value), Pt n X zM258 4 [some (.ref 72), u1_] [] h_13 (qN P)))) ∧ (mL (vw h) ≠ 43 → ((mL (vw h) ≠ 45 → P h) ∧ (mL (vw h) = 45 → ∀ h_21 : aH, wS h_21 → vw h_21 = up (vw h) 72 64 (w32 ((vw h 72 64) + 1)) → ((mpre (vw h_21) ∧ kpre (vw h_21)) ∧ ∀ (h_22 : aH), (wS h_22 ∧ mRes 1 (vw h_21) (vw h_22) ∧ kRes 1 (vw h_21) (vw h_22)) → ∀ (h_24 : aH), (wS h_24 ∧ RLay (vw h_22) (mL (vw h)) 0 (vw h_24)) → (∀ (u1_ : Option Value), Pt n X zM258 4 [some (.ref 72), u1_] [] h_24 (qN P)))))))))) : Pt (n + 1) X zM258 4 [some (.ref 72), u1] [] h (qN P) := by
  refine pt_1 (fun n d => r_aloadn gx258_4 rfl) ?_
  refine pt_d (pt_getI (B := 65) gx258_5 S (fun v1 h1 => ?_))
  refine pt_d (pt_if_ge gx258_8 h1 (fun e2 => ?_) (fun e2 => ?_))
  · have H := H.1 e2
    exact pt_d (pt_vret gx258_57 ⟨rfl, H⟩)
  · have H := H.2 e2
    refine pt_d (pt_1 (fun n d => r_aloadn gx258_11 rfl) ?_)
    refine pt_d (pt_virt (as := []) (r := []) gx258_12 rfl (show zmt[251]? = some zM251 from rfl) rfl rfl rfl rfl (c_251 S) (kqP (fun v3 h3 => ?_)))
    show Pt _ _ _ 15 _ [.int v3] _ _
    refine pt_d (pt_bipush gx258_15 (fun v4 h4 => ?_))
    refine pt_d (pt_icmp_eq gx258_17 h3 h4 (fun e5 => ?_) (fun e5 => ?_))
    · have H := H.1 e5
      refine pt_d (pt_1 (fun n d => r_aloadn gx258_29 rfl) ?_)
      refine pt_d (pt_virt (as := []) (r := []) gx258_30 rfl (show zmt[251]? = some zM251 from rfl) rfl rfl rfl rfl (c_251 S) (kqP (fun v6 h6 => ?_)))
      show Pt _ _ _ 33 _ [.int v6] _ _
      refine pt_d (pt_1 (fun n d => r_istoren (L' := [some (.ref 72), some (.int v6)]) gx258_33 rfl rfl) ?_)
      refine pt_d (pt_1 (fun n d => r_aloadn gx258_34 rfl) ?_)
      refine pt_d (pt_1 (fun n d => r_dup gx258_35 rfl) ?_)
      refine pt_d (pt_getI (B := 64) gx258_36 S (fun v7 h7 => ?_))
      refine pt_d (pt_iconst gx258_39 (fun v8 h8 => ?_))
      refine pt_d (pt_iadd gx258_40 h7 h8 (fun v9 h9 => ?_))
      refine pt_d (pt_putI (B := 64) gx258_41 S h9 (fun h_10 S10 e10 => ?_))
      refine pt_d (pt_1 (fun n d => r_aloadn gx258_44 rfl) ?_)
      have H := H h_10 S10 (by rw [e10])
      obtain ⟨pr11, H⟩ := H
      refine pt_d (pt_virt (as := []) (r := []) gx258_45 rfl (show zmt[257]? = some zM257 from rfl) rfl rfl rfl rfl (K257 S10 pr11) (kqN (fun h_11 P11 => ?_)))
      have S11 := P11.1
      have H := H h_11 P11
      show Pt _ _ _ 48 _ [] _ _
      refine pt_d (pt_1 (fun n d => r_aloadn gx258_48 rfl) ?_)
      refine pt_d (pt_1 (fun n d => r_iloadn gx258_49 rfl) ?_)
      refine pt_d (pt_iconst gx258_50 (fun v12 h12 => ?_))
      refine pt_d (pt_virt (as := [.int v6, .int v12]) (r := []) gx258_51 rfl (show zmt[253]? = some zM253 from rfl) rfl rfl rfl rfl (c_253v S11 h6 h12) (kqN (fun h_13 P13 => ?_)))
      have S13 := P13.1
      have H := H h_13 P13
      show Pt _ _ _ 54 _ [] _ _
      refine pt_d (pt_1 (fun n d => r_goto gx258_54) ?_)
      exact H _
    · have H := H.2 e5
      refine pt_d (pt_1 (fun n d => r_aloadn gx258_20 rfl) ?_)
      refine pt_d (pt_virt (as := []) (r := []) gx258_21 rfl (show zmt[251]? = some zM251 from rfl) rfl rfl rfl rfl (c_251 S) (kqP (fun v14 h14 => ?_)))
      show Pt _ _ _ 24 _ [.int v14] _ _
      refine pt_d (pt_bipush gx258_24 (fun v15 h15 => ?_))
      refine pt_d (pt_icmp_ne gx258_26 h14 h15 (fun e16 => ?_) (fun e16 => ?_))
      · have H := H.1 e16
        exact pt_d (pt_vret gx258_57 ⟨rfl, H⟩)
      · have H := H.2 e16
        refine pt_d (pt_1 (fun n d => r_aloadn gx258_29 rfl) ?_)
        refine pt_d (pt_virt (as := []) (r := []) gx258_30 rfl (show zmt[251]? = some zM251 from rfl) rfl rfl rfl rfl (c_251 S) (kqP (fun v17 h17 => ?_)))
        show Pt _ _ _ 33 _ [.int v17] _ _
        refine pt_d (pt_1 (fun n d => r_istoren (L' := [some (.ref 72), some (.int v17)]) gx258_33 rfl rfl) ?_)
        refine pt_d (pt_1 (fun n d => r_aloadn gx258_34 rfl) ?_)
        refine pt_d (pt_1 (fun n d => r_dup gx258_35 rfl) ?_)
        refine pt_d (pt_getI (B := 64) gx258_36 S (fun v18 h18 => ?_))
        refine pt_d (pt_iconst gx258_39 (fun v19 h19 => ?_))
        refine pt_d (pt_iadd gx258_40 h18 h19 (fun v20 h20 => ?_))
        refine pt_d (pt_putI (B := 64) gx258_41 S h20 (fun h_21 S21 e21 => ?_))
        refine pt_d (pt_1 (fun n d => r_aloadn gx258_44 rfl) ?_)
        have H := H h_21 S21 (by rw [e21])
        obtain ⟨pr22, H⟩ := H
        refine pt_d (pt_virt (as := []) (r := []) gx258_45 rfl (show zmt[257]? = some zM257 from rfl) rfl rfl rfl rfl (K257 S21 pr22) (kqN (fun h_22 P22 => ?_)))
        have S22 := P22.1
        have H := H h_22 P22
        show Pt _ _ _ 48 _ [] _ _
        refine pt_d (pt_1 (fun n d => r_aloadn gx258_48 rfl) ?_)
        refine pt_d (pt_1 (fun n d => r_iloadn gx258_49 rfl) ?_)
        refine pt_d (pt_iconst gx258_50 (fun v23 h23 => ?_))
        refine pt_d (pt_virt (as := [.int v17, .int v23]) (r := []) gx258_51 rfl (show zmt[253]? = some zM253 from rfl) rfl rfl rfl rfl (c_253v S22 h17 h23) (kqN (fun h_24 P24 => ?_)))
        have S24 := P24.1
        have H := H h_24 P24
        show Pt _ _ _ 54 _ [] _ _
        refine pt_d (pt_1 (fun n d => r_goto gx258_54) ?_)
        exact H _
theorem y260_0 {n : Nat} {X : aX} {h : aH} {P : aH → Prop} (S : wS h) (K259 : mv259 n X) (H : ((mpre (vw h) ∧ kpre (vw h)) ∧ ∀ (h_1 : aH), (wS h_1 ∧ mRes 5 (vw h) (vw h_1) ∧ kRes 5 (vw h) (vw h_1)) → Pt n X zM260 4 [some (.ref 72)] [] h_1 (qN P))) : Pt (n + 1) X zM260 0 [some (.ref 72)] [] h (qN P) := by
  refine pt_1 (fun n d => r_aloadn gx260_0 rfl) ?_
  obtain ⟨pr1, H⟩ := H
  refine pt_d (pt_virt (as := []) (r := []) gx260_1 rfl (show zmt[259]? = some zM259 from rfl) rfl rfl rfl rfl (K259 S pr1) (kqN (fun h_1 P1 => ?_)))
  have S1 := P1.1
  have H := H h_1 P1
  show Pt _ _ _ 4 _ [] _ _
  exact H
theorem y260_4 {n : Nat} {X : aX} {h : aH} {P : aH → Prop} (S : wS h) (K259 : mv259 n X) (H : ((0 ≤ vw h 72 65 → P h) ∧ (vw h 72 65 < 0 → ((mL (vw h) ≠ 38 → P h) ∧ (mL (vw h) = 38 → ∀ h_9 : aH, wS h_9 → vw h_9 = up (vw h) 72 64 (w32 ((vw h 72 64) + 1)) → ((mpre (vw h_9) ∧ kpre (vw h_9)) ∧ ∀ (h_10 : aH), (wS h_10 ∧ mRes 5 (vw h_9) (vw h_10) ∧ kRes 5 (vw h_9) (vw h_10)) → ∀ (h_13 : aH), (wS h_13 ∧ RLay (vw h_10) 38 0 (vw h_13)) → Pt n X zM260 4 [some (.ref 72)] [] h_13 (qN P))))))) : Pt (n + 1) X zM260 4 [some (.ref 72)] [] h (qN P) := by
  refine pt_1 (fun n d => r_aloadn gx260_4 rfl) ?_
  refine pt_d (pt_getI (B := 65) gx260_5 S (fun v1 h1 => ?_))
  refine pt_d (pt_if_ge gx260_8 h1 (fun e2 => ?_) (fun e2 => ?_))
  · have H := H.1 e2
    exact pt_d (pt_vret gx260_44 ⟨rfl, H⟩)
  · have H := H.2 e2
    refine pt_d (pt_1 (fun n d => r_aloadn gx260_11 rfl) ?_)
    refine pt_d (pt_virt (as := []) (r := []) gx260_12 rfl (show zmt[251]? = some zM251 from rfl) rfl rfl rfl rfl (c_251 S) (kqP (fun v3 h3 => ?_)))
    show Pt _ _ _ 15 _ [.int v3] _ _
    refine pt_d (pt_bipush gx260_15 (fun v4 h4 => ?_))
    refine pt_d (pt_icmp_ne gx260_17 h3 h4 (fun e5 => ?_) (fun e5 => ?_))
    · have H := H.1 e5
      exact pt_d (pt_vret gx260_44 ⟨rfl, H⟩)
    · have H := H.2 e5
      refine pt_d (pt_1 (fun n d => r_aloadn gx260_20 rfl) ?_)
      refine pt_d (pt_1 (fun n d => r_dup gx260_21 rfl) ?_)
      refine pt_d (pt_getI (B := 64) gx260_22 S (fun v6 h6 => ?_))
      refine pt_d (pt_iconst gx260_25 (fun v7 h7 => ?_))
      refine pt_d (pt_iadd gx260_26 h6 h7 (fun v8 h8 => ?_))
      refine pt_d (pt_putI (B := 64) gx260_27 S h8 (fun h_9 S9 e9 => ?_))
      refine pt_d (pt_1 (fun n d => r_aloadn gx260_30 rfl) ?_)
      have H := H h_9 S9 (by rw [e9])
      obtain ⟨pr10, H⟩ := H
      refine pt_d (pt_virt (as := []) (r := []) gx260_31 rfl (show zmt[259]? = some zM259 from rfl) rfl rfl rfl rfl (K259 S9 pr10) (kqN (fun h_10 P10 => ?_)))
      have S10 := P10.1
      have H := H h_10 P10
      show Pt _ _ _ 34 _ [] _ _
      refine pt_d (pt_1 (fun n d => r_aloadn gx260_34 rfl) ?_)
      refine pt_d (pt_bipush gx260_35 (fun v11 h11 => ?_))
      refine pt_d (pt_iconst gx260_37 (fun v12 h12 => ?_))
      refine pt_d (pt_virt (as := [.int v11, .int v12]) (r := []) gx260_38 rfl (show zmt[253]? = some zM253 from rfl) rfl rfl rfl rfl (c_253v S10 h11 h12) (kqN (fun h_13 P13 => ?_)))
      have S13 := P13.1
      have H := H h_13 P13
      show Pt _ _ _ 41 _ [] _ _
      refine pt_d (pt_1 (fun n d => r_goto gx260_41) ?_)
      exact H
theorem y261_0 {n : Nat} {X : aX} {h : aH} {P : aH → Prop} (S : wS h) (K260 : mv260 n X) (H : ((mpre (vw h) ∧ kpre (vw h)) ∧ ∀ (h_1 : aH), (wS h_1 ∧ mRes 6 (vw h) (vw h_1) ∧ kRes 6 (vw h) (vw h_1)) → Pt n X zM261 4 [some (.ref 72)] [] h_1 (qN P))) : Pt (n + 1) X zM261 0 [some (.ref 72)] [] h (qN P) := by
  refine pt_1 (fun n d => r_aloadn gx261_0 rfl) ?_
  obtain ⟨pr1, H⟩ := H
  refine pt_d (pt_virt (as := []) (r := []) gx261_1 rfl (show zmt[260]? = some zM260 from rfl) rfl rfl rfl rfl (K260 S pr1) (kqN (fun h_1 P1 => ?_)))
  have S1 := P1.1
  have H := H h_1 P1
  show Pt _ _ _ 4 _ [] _ _
  exact H
theorem y261_4 {n : Nat} {X : aX} {h : aH} {P : aH → Prop} (S : wS h) (K260 : mv260 n X) (H : ((0 ≤ vw h 72 65 → P h) ∧ (vw h 72 65 < 0 → ((mL (vw h) ≠ 124 → P h) ∧ (mL (vw h) = 124 → ∀ h_9 : aH, wS h_9 → vw h_9 = up (vw h) 72 64 (w32 ((vw h 72 64) + 1)) → ((mpre (vw h_9) ∧ kpre (vw h_9)) ∧ ∀ (h_10 : aH), (wS h_10 ∧ mRes 6 (vw h_9) (vw h_10) ∧ kRes 6 (vw h_9) (vw h_10)) → ∀ (h_13 : aH), (wS h_13 ∧ RLay (vw h_10) 124 0 (vw h_13)) → Pt n X zM261 4 [some (.ref 72)] [] h_13 (qN P))))))) : Pt (n + 1) X zM261 4 [some (.ref 72)] [] h (qN P) := by
  refine pt_1 (fun n d => r_aloadn gx261_4 rfl) ?_
  refine pt_d (pt_getI (B := 65) gx261_5 S (fun v1 h1 => ?_))
  refine pt_d (pt_if_ge gx261_8 h1 (fun e2 => ?_) (fun e2 => ?_))
  · have H := H.1 e2
    exact pt_d (pt_vret gx261_44 ⟨rfl, H⟩)
  · have H := H.2 e2
    refine pt_d (pt_1 (fun n d => r_aloadn gx261_11 rfl) ?_)
    refine pt_d (pt_virt (as := []) (r := []) gx261_12 rfl (show zmt[251]? = some zM251 from rfl) rfl rfl rfl rfl (c_251 S) (kqP (fun v3 h3 => ?_)))
    show Pt _ _ _ 15 _ [.int v3] _ _
    refine pt_d (pt_bipush gx261_15 (fun v4 h4 => ?_))
    refine pt_d (pt_icmp_ne gx261_17 h3 h4 (fun e5 => ?_) (fun e5 => ?_))
    · have H := H.1 e5
      exact pt_d (pt_vret gx261_44 ⟨rfl, H⟩)
    · have H := H.2 e5
      refine pt_d (pt_1 (fun n d => r_aloadn gx261_20 rfl) ?_)
      refine pt_d (pt_1 (fun n d => r_dup gx261_21 rfl) ?_)
      refine pt_d (pt_getI (B := 64) gx261_22 S (fun v6 h6 => ?_))
      refine pt_d (pt_iconst gx261_25 (fun v7 h7 => ?_))
      refine pt_d (pt_iadd gx261_26 h6 h7 (fun v8 h8 => ?_))
      refine pt_d (pt_putI (B := 64) gx261_27 S h8 (fun h_9 S9 e9 => ?_))
      refine pt_d (pt_1 (fun n d => r_aloadn gx261_30 rfl) ?_)
      have H := H h_9 S9 (by rw [e9])
      obtain ⟨pr10, H⟩ := H
      refine pt_d (pt_virt (as := []) (r := []) gx261_31 rfl (show zmt[260]? = some zM260 from rfl) rfl rfl rfl rfl (K260 S9 pr10) (kqN (fun h_10 P10 => ?_)))
      have S10 := P10.1
      have H := H h_10 P10
      show Pt _ _ _ 34 _ [] _ _
      refine pt_d (pt_1 (fun n d => r_aloadn gx261_34 rfl) ?_)
      refine pt_d (pt_bipush gx261_35 (fun v11 h11 => ?_))
      refine pt_d (pt_iconst gx261_37 (fun v12 h12 => ?_))
      refine pt_d (pt_virt (as := [.int v11, .int v12]) (r := []) gx261_38 rfl (show zmt[253]? = some zM253 from rfl) rfl rfl rfl rfl (c_253v S10 h11 h12) (kqN (fun h_13 P13 => ?_)))
      have S13 := P13.1
      have H := H h_13 P13
      show Pt _ _ _ 41 _ [] _ _
      refine pt_d (pt_1 (fun n d => r_goto gx261_41) ?_)
      exact H
theorem y259_0 {n : Nat} {X : aX} {h : aH} {P : aH → Prop} (S : wS h) (K258 : mv258 n X) (H : ((mpre (vw h) ∧ kpre (vw h)) ∧ ∀ (h_1 : aH), (wS h_1 ∧ mRes 3 (vw h) (vw h_1) ∧ kRes 3 (vw h) (vw h_1)) → ((0 ≤ vw h_1 72 65 → P h_1) ∧ (vw h_1 72 65 < 0 → ((mL (vw h_1) = 60 → ∀ h_10 : aH, wS h_10 → vw h_10 = up (vw h_1) 72 64 (w32 ((vw h_1 72 64) + 1)) → ((mpre (vw h_10) ∧ kpre (vw h_10)) ∧ ∀ (h_11 : aH), (wS h_11 ∧ mRes 3 (vw h_10) (vw h_11) ∧ kRes 3 (vw h_10) (vw h_11)) → ∀ (h_13 : aH), (wS h_13 ∧ RLay (vw h_11) (mL (vw h_1)) 0 (vw h_13)) → P h_13)) ∧ (mL (vw h_1) ≠ 60 → ((mL (vw h_1) = 61 → ∀ h_19 : aH, wS h_19 → vw h_19 = up (vw h_1) 72 64 (w32 ((vw h_1 72 64) + 1)) → ((mpre (vw h_19) ∧ kpre (vw h_19)) ∧ ∀ (h_20 : aH), (wS h_20 ∧ mRes 3 (vw h_19) (vw h_20) ∧ kRes 3 (vw h_19) (vw h_20)) → ∀ (h_22 : aH), (wS h_22 ∧ RLay (vw h_20) (mL (vw h_1)) 0 (vw h_22)) → P h_22)) ∧ (mL (vw h_1) ≠ 61 → ((mL (vw h_1) = 62 → ∀ h_28 : aH, wS h_28 → vw h_28 = up (vw h_1) 72 64 (w32 ((vw h_1 72 64) + 1)) → ((mpre (vw h_28) ∧ kpre (vw h_28)) ∧ ∀ (h_29 : aH), (wS h_29 ∧ mRes 3 (vw h_28) (vw h_29) ∧ kRes 3 (vw h_28) (vw h_29)) → ∀ (h_31 : aH), (wS h_31 ∧ RLay (vw h_29) (mL (vw h_1)) 0 (vw h_31)) → P h_31)) ∧ (mL (vw h_1) ≠ 62 → P h_1)))))))))) : Pt (n + 1) X zM259 0 [some (.ref 72), none] [] h (qN P) := by
  refine pt_1 (fun n d => r_aloadn gx259_0 rfl) ?_
  obtain ⟨pr1, H⟩ := H
  refine pt_d (pt_virt (as := []) (r := []) gx259_1 rfl (show zmt[258]? = some zM258 from rfl) rfl rfl rfl rfl (K258 S pr1) (kqN (fun h_1 P1 => ?_)))
  have S1 := P1.1
  have H := H h_1 P1
  show Pt _ _ _ 4 _ [] _ _
  refine pt_d (pt_1 (fun n d => r_aloadn gx259_4 rfl) ?_)
  refine pt_d (pt_virt (as := []) (r := []) gx259_5 rfl (show zmt[251]? = some zM251 from rfl) rfl rfl rfl rfl (c_251 S1) (kqP (fun v2 h2 => ?_)))
  show Pt _ _ _ 8 _ [.int v2] _ _
  refine pt_d (pt_1 (fun n d => r_istoren (L' := [some (.ref 72), some (.int v2)]) gx259_8 rfl rfl) ?_)
  refine pt_d (pt_1 (fun n d => r_aloadn gx259_9 rfl) ?_)
  refine pt_d (pt_getI (B := 65) gx259_10 S1 (fun v3 h3 => ?_))
  refine pt_d (pt_if_ge gx259_13 h3 (fun e4 => ?_) (fun e4 => ?_))
  · have H := H.1 e4
    exact pt_d (pt_vret gx259_34 ⟨rfl, H⟩)
  · have H := H.2 e4
    refine pt_d (pt_1 (fun n d => r_iloadn gx259_16 rfl) ?_)
    refine pt_d (pt_bipush gx259_17 (fun v5 h5 => ?_))
    refine pt_d (pt_icmp_eq gx259_19 h2 h5 (fun e6 => ?_) (fun e6 => ?_))
    · have H := H.1 e6
      refine pt_d (pt_1 (fun n d => r_aloadn gx259_35 rfl) ?_)
      refine pt_d (pt_1 (fun n d => r_dup gx259_36 rfl) ?_)
      refine pt_d (pt_getI (B := 64) gx259_37 S1 (fun v7 h7 => ?_))
      refine pt_d (pt_iconst gx259_40 (fun v8 h8 => ?_))
      refine pt_d (pt_iadd gx259_41 h7 h8 (fun v9 h9 => ?_))
      refine pt_d (pt_putI (B := 64) gx259_42 S1 h9 (fun h_10 S10 e10 => ?_))
      refine pt_d (pt_1 (fun n d => r_aloadn gx259_45 rfl) ?_)
      have H := H h_10 S10 (by rw [e10])
      obtain ⟨pr11, H⟩ := H
      refine pt_d (pt_virt (as := []) (r := []) gx259_46 rfl (show zmt[258]? = some zM258 from rfl) rfl rfl rfl rfl (K258 S10 pr11) (kqN (fun h_11 P11 => ?_)))
      have S11 := P11.1
      have H := H h_11 P11
      show Pt _ _ _ 49 _ [] _ _
      refine pt_d (pt_1 (fun n d => r_aloadn gx259_49 rfl) ?_)
      refine pt_d (pt_1 (fun n d => r_iloadn gx259_50 rfl) ?_)
      refine pt_d (pt_iconst gx259_51 (fun v12 h12 => ?_))
      refine pt_d (pt_virt (as := [.int v2, .int v12]) (r := []) gx259_52 rfl (show zmt[253]? = some zM253 from rfl) rfl rfl rfl rfl (c_253v S11 h2 h12) (kqN (fun h_13 P13 => ?_)))
      have S13 := P13.1
      have H := H h_13 P13
      show Pt _ _ _ 55 _ [] _ _
      exact pt_d (pt_vret gx259_55 ⟨rfl, H⟩)
    · have H := H.2 e6
      refine pt_d (pt_1 (fun n d => r_iloadn gx259_22 rfl) ?_)
      refine pt_d (pt_bipush gx259_23 (fun v14 h14 => ?_))
      refine pt_d (pt_icmp_eq gx259_25 h2 h14 (fun e15 => ?_) (fun e15 => ?_))
      · have H := H.1 e15
        refine pt_d (pt_1 (fun n d => r_aloadn gx259_35 rfl) ?_)
        refine pt_d (pt_1 (fun n d => r_dup gx259_36 rfl) ?_)
        refine pt_d (pt_getI (B := 64) gx259_37 S1 (fun v16 h16 => ?_))
        refine pt_d (pt_iconst gx259_40 (fun v17 h17 => ?_))
        refine pt_d (pt_iadd gx259_41 h16 h17 (fun v18 h18 => ?_))
        refine pt_d (pt_putI (B := 64) gx259_42 S1 h18 (fun h_19 S19 e19 => ?_))
        refine pt_d (pt_1 (fun n d => r_aloadn gx259_45 rfl) ?_)
        have H := H h_19 S19 (by rw [e19])
        obtain ⟨pr20, H⟩ := H
        refine pt_d (pt_virt (as := []) (r := []) gx259_46 rfl (show zmt[258]? = some zM258 from rfl) rfl rfl rfl rfl (K258 S19 pr20) (kqN (fun h_20 P20 => ?_)))
        have S20 := P20.1
        have H := H h_20 P20
        show Pt _ _ _ 49 _ [] _ _
        refine pt_d (pt_1 (fun n d => r_aloadn gx259_49 rfl) ?_)
        refine pt_d (pt_1 (fun n d => r_iloadn gx259_50 rfl) ?_)
        refine pt_d (pt_iconst gx259_51 (fun v21 h21 => ?_))
        refine pt_d (pt_virt (as := [.int v2, .int v21]) (r := []) gx259_52 rfl (show zmt[253]? = some zM253 from rfl) rfl rfl rfl rfl (c_253v S20 h2 h21) (kqN (fun h_22 P22 => ?_)))
        have S22 := P22.1
        have H := H h_22 P22
        show Pt _ _ _ 55 _ [] _ _
        exact pt_d (pt_vret gx259_55 ⟨rfl, H⟩)
      · have H := H.2 e15
        refine pt_d (pt_1 (fun n d => r_iloadn gx259_28 rfl) ?_)
        refine pt_d (pt_bipush gx259_29 (fun v23 h23 => ?_))
        refine pt_d (pt_icmp_eq gx259_31 h2 h23 (fun e24 => ?_) (fun e24 => ?_))
        · have H := H.1 e24
          refine pt_d (pt_1 (fun n d => r_aloadn gx259_35 rfl) ?_)
          refine pt_d (pt_1 (fun n d => r_dup gx259_36 rfl) ?_)
          refine pt_d (pt_getI (B := 64) gx259_37 S1 (fun v25 h25 => ?_))
          refine pt_d (pt_iconst gx259_40 (fun v26 h26 => ?_))
          refine pt_d (pt_iadd gx259_41 h25 h26 (fun v27 h27 => ?_))
          refine pt_d (pt_putI (B := 64) gx259_42 S1 h27 (fun h_28 S28 e28 => ?_))
          refine pt_d (pt_1 (fun n d => r_aloadn gx259_45 rfl) ?_)
          have H := H h_28 S28 (by rw [e28])
          obtain ⟨pr29, H⟩ := H
          refine pt_d (pt_virt (as := []) (r := []) gx259_46 rfl (show zmt[258]? = some zM258 from rfl) rfl rfl rfl rfl (K258 S28 pr29) (kqN (fun h_29 P29 => ?_)))
          have S29 := P29.1
          have H := H h_29 P29
          show Pt _ _ _ 49 _ [] _ _
          refine pt_d (pt_1 (fun n d => r_aloadn gx259_49 rfl) ?_)
          refine pt_d (pt_1 (fun n d => r_iloadn gx259_50 rfl) ?_)
          refine pt_d (pt_iconst gx259_51 (fun v30 h30 => ?_))
          refine pt_d (pt_virt (as := [.int v2, .int v30]) (r := []) gx259_52 rfl (show zmt[253]? = some zM253 from rfl) rfl rfl rfl rfl (c_253v S29 h2 h30) (kqN (fun h_31 P31 => ?_)))
          have S31 := P31.1
          have H := H h_31 P31
          show Pt _ _ _ 55 _ [] _ _
          exact pt_d (pt_vret gx259_55 ⟨rfl, H⟩)
        · have H := H.2 e24
          exact pt_d (pt_vret gx259_34 ⟨rfl, H⟩)
theorem k_up {V V4 : vS} (K : kpre V) (e : V4 = up V 72 64 (V 72 64 + 1)) : kpre V4 := by
  have h := K.2
  rw [e]
  refine ⟨by rw [up_j (by decide)]; exact K.1, by rw [up_j (by decide)]; exact h.1, ?_⟩
  rw [up_j (by decide), up_s]
  omega

theorem ek_257 {n : Nat} {X : aX} (K : mv256 n X) (KL : mw257 n X) : mv257 (n + 1) X := by
  intro h S hp
  refine y257_0 S K ⟨hp, fun h1 k1 u1 => ?_⟩
  refine pt_q (KL k1.1 (mRes_p hp.1 k1.2.1) (kF_p (Int.le_refl _) hp.2 k1.2.2.1)) ?_
  rintro v h' ⟨ev, p1, p2, p3⟩
  exact ⟨ev, p1, m_seq gsq1 hp.1 k1.2.1 p2, k_seq ksq1 k1.2.1 k1.2.2 p2 p3⟩
theorem fk_257 {n : Nat} {X : aX} (K : mv256 n X) (KL : mw257 n X) : mw257 (n + 1) X := by
  intro h u1 S H KV
  have go : ∀ (c : Int) (g : aH), 0 ≤ c → opB 2 c = true → vw h 72 65 < 0 → mL (vw h) = c → vw g = up (vw h) 72 64 (w32 (vw h 72 64 + 1)) → (mpre (vw g) ∧ kpre (vw g)) ∧ ∀ h1 : aH, (wS h1 ∧ mRes 0 (vw g) (vw h1) ∧ kRes 0 (vw g) (vw h1)) → ∀ h2 : aH, (wS h2 ∧ RLay (vw h1) (mL (vw h)) 0 (vw h2)) → ∀ (u1 : Option Value), Pt n X zM257 4 [some (.ref 72), u1] [] h2 (qN (fun h' => wS h' ∧ mLo 2 (vw h) (vw h') ∧ kLo 2 (vw h) (vw h'))) := by
    intro c g c0 ho hf hc eg
    obtain ⟨q1, q2, q3, q4, q5, q6, q7, q8⟩ := m_here H hf c0 hc eg
    refine ⟨⟨q2, k_up KV q3⟩, fun h1 k1 h2 l u1 => ?_⟩
    obtain ⟨S1, c1, k1⟩ := k1
    obtain ⟨S2, l⟩ := l
    rw [hc] at l
    refine pt_q (KL S2 (mRes_p q2 (mRes_y c1 (lay_l l))) (kF_p (Int.le_refl _) KV (k_gl H KV hf c0 hc eg c1 k1 l).1)) ?_
    rintro v h' ⟨ev, p1, p2, p3⟩
    exact ⟨ev, p1, m_step glp2 H hf c0 hc ho eg c1 (lay_l l) p2, k_step klp2 H KV hf c0 hc ho eg c1 k1 l p2 p3⟩
  exact y257_4 S K ⟨fun w => ⟨S, ⟨fun z => by omega, fun _ => ⟨mfr_r _, rfl, rfl⟩⟩, ⟨kFs_r, fun z => by omega⟩⟩, fun hf => ⟨fun e0 g S2 eg => go 42 g (by decide) rfl hf e0 eg, fun n0 => ⟨fun e1 g S2 eg => go 47 g (by decide) rfl hf e1 eg, fun n1 => ⟨fun n2 => ⟨S, m_out (fun _ _ _ => lp_e glp2) H (fun hf => by rw [← mL_T H.2.2.1.1]; show (((_ == 42 || _ == 47) || _ == 37)) = false; rw [beq_false_of_ne n0, beq_false_of_ne n1, beq_false_of_ne n2]; rfl), k_out klp2 (fun hf => by rw [← mL_T H.2.2.1.1]; show (((_ == 42 || _ == 47) || _ == 37)) = false; rw [beq_false_of_ne n0, beq_false_of_ne n1, beq_false_of_ne n2]; rfl)⟩, fun e2 g S2 eg => go 37 g (by decide) rfl hf e2 eg⟩⟩⟩⟩
theorem ek_258 {n : Nat} {X : aX} (K : mv257 n X) (KL : mw258 n X) : mv258 (n + 1) X := by
  intro h S hp
  refine y258_0 S K ⟨hp, fun h1 k1 u1 => ?_⟩
  refine pt_q (KL k1.1 (mRes_p hp.1 k1.2.1) (kF_p (Int.le_refl _) hp.2 k1.2.2.1)) ?_
  rintro v h' ⟨ev, p1, p2, p3⟩
  exact ⟨ev, p1, m_seq gsq3 hp.1 k1.2.1 p2, k_seq ksq3 k1.2.1 k1.2.2 p2 p3⟩
theorem fk_258 {n : Nat} {X : aX} (K : mv257 n X) (KL : mw258 n X) : mw258 (n + 1) X := by
  intro h u1 S H KV
  have go : ∀ (c : Int) (g : aH), 0 ≤ c → opB 4 c = true → vw h 72 65 < 0 → mL (vw h) = c → vw g = up (vw h) 72 64 (w32 (vw h 72 64 + 1)) → (mpre (vw g) ∧ kpre (vw g)) ∧ ∀ h1 : aH, (wS h1 ∧ mRes 1 (vw g) (vw h1) ∧ kRes 1 (vw g) (vw h1)) → ∀ h2 : aH, (wS h2 ∧ RLay (vw h1) (mL (vw h)) 0 (vw h2)) → ∀ (u1 : Option Value), Pt n X zM258 4 [some (.ref 72), u1] [] h2 (qN (fun h' => wS h' ∧ mLo 4 (vw h) (vw h') ∧ kLo 4 (vw h) (vw h'))) := by
    intro c g c0 ho hf hc eg
    obtain ⟨q1, q2, q3, q4, q5, q6, q7, q8⟩ := m_here H hf c0 hc eg
    refine ⟨⟨q2, k_up KV q3⟩, fun h1 k1 h2 l u1 => ?_⟩
    obtain ⟨S1, c1, k1⟩ := k1
    obtain ⟨S2, l⟩ := l
    rw [hc] at l
    refine pt_q (KL S2 (mRes_p q2 (mRes_y c1 (lay_l l))) (kF_p (Int.le_refl _) KV (k_gl H KV hf c0 hc eg c1 k1 l).1)) ?_
    rintro v h' ⟨ev, p1, p2, p3⟩
    exact ⟨ev, p1, m_step glp4 H hf c0 hc ho eg c1 (lay_l l) p2, k_step klp4 H KV hf c0 hc ho eg c1 k1 l p2 p3⟩
  exact y258_4 S K ⟨fun w => ⟨S, ⟨fun z => by omega, fun _ => ⟨mfr_r _, rfl, rfl⟩⟩, ⟨kFs_r, fun z => by omega⟩⟩, fun hf => ⟨fun e0 g S2 eg => go 43 g (by decide) rfl hf e0 eg, fun n0 => ⟨fun n1 => ⟨S, m_out (fun _ _ _ => lp_e glp4) H (fun hf => by rw [← mL_T H.2.2.1.1]; show ((_ == 43 || _ == 45)) = false; rw [beq_false_of_ne n0, beq_false_of_ne n1]; rfl), k_out klp4 (fun hf => by rw [← mL_T H.2.2.1.1]; show ((_ == 43 || _ == 45)) = false; rw [beq_false_of_ne n0, beq_false_of_ne n1]; rfl)⟩, fun e1 g S2 eg => go 45 g (by decide) rfl hf e1 eg⟩⟩⟩
theorem ek_260 {n : Nat} {X : aX} (K : mv259 n X) (KL : mw260 n X) : mv260 (n + 1) X := by
  intro h S hp
  refine y260_0 S K ⟨hp, fun h1 k1 => ?_⟩
  refine pt_q (KL k1.1 (mRes_p hp.1 k1.2.1) (kF_p (Int.le_refl _) hp.2 k1.2.2.1)) ?_
  rintro v h' ⟨ev, p1, p2, p3⟩
  exact ⟨ev, p1, m_seq gsq6 hp.1 k1.2.1 p2, k_seq ksq6 k1.2.1 k1.2.2 p2 p3⟩
theorem fk_260 {n : Nat} {X : aX} (K : mv259 n X) (KL : mw260 n X) : mw260 (n + 1) X := by
  intro h S H KV
  have go : ∀ (c : Int) (g : aH), 0 ≤ c → opB 7 c = true → vw h 72 65 < 0 → mL (vw h) = c → vw g = up (vw h) 72 64 (w32 (vw h 72 64 + 1)) → (mpre (vw g) ∧ kpre (vw g)) ∧ ∀ h1 : aH, (wS h1 ∧ mRes 5 (vw g) (vw h1) ∧ kRes 5 (vw g) (vw h1)) → ∀ h2 : aH, (wS h2 ∧ RLay (vw h1) c 0 (vw h2)) → Pt n X zM260 4 [some (.ref 72)] [] h2 (qN (fun h' => wS h' ∧ mLo 7 (vw h) (vw h') ∧ kLo 7 (vw h) (vw h'))) := by
    intro c g c0 ho hf hc eg
    obtain ⟨q1, q2, q3, q4, q5, q6, q7, q8⟩ := m_here H hf c0 hc eg
    refine ⟨⟨q2, k_up KV q3⟩, fun h1 k1 h2 l => ?_⟩
    obtain ⟨S1, c1, k1⟩ := k1
    obtain ⟨S2, l⟩ := l
    refine pt_q (KL S2 (mRes_p q2 (mRes_y c1 (lay_l l))) (kF_p (Int.le_refl _) KV (k_gl H KV hf c0 hc eg c1 k1 l).1)) ?_
    rintro v h' ⟨ev, p1, p2, p3⟩
    exact ⟨ev, p1, m_step glp7 H hf c0 hc ho eg c1 (lay_l l) p2, k_step klp7 H KV hf c0 hc ho eg c1 k1 l p2 p3⟩
  exact y260_4 S K ⟨fun w => ⟨S, ⟨fun z => by omega, fun _ => ⟨mfr_r _, rfl, rfl⟩⟩, ⟨kFs_r, fun z => by omega⟩⟩, fun hf => ⟨fun n0 => ⟨S, m_out (fun _ _ _ => lp_e glp7) H (fun hf => by rw [← mL_T H.2.2.1.1]; show (_ == 38) = false; rw [beq_false_of_ne n0]), k_out klp7 (fun hf => by rw [← mL_T H.2.2.1.1]; show (_ == 38) = false; rw [beq_false_of_ne n0])⟩, fun e0 g S2 eg => go 38 g (by decide) rfl hf e0 eg⟩⟩
theorem ek_261 {n : Nat} {X : aX} (K : mv260 n X) (KL : mw261 n X) : mv261 (n + 1) X := by
  intro h S hp
  refine y261_0 S K ⟨hp, fun h1 k1 => ?_⟩
  refine pt_q (KL k1.1 (mRes_p hp.1 k1.2.1) (kF_p (Int.le_refl _) hp.2 k1.2.2.1)) ?_
  rintro v h' ⟨ev, p1, p2, p3⟩
  exact ⟨ev, p1, m_seq gsq8 hp.1 k1.2.1 p2, k_seq ksq8 k1.2.1 k1.2.2 p2 p3⟩
theorem fk_261 {n : Nat} {X : aX} (K : mv260 n X) (KL : mw261 n X) : mw261 (n + 1) X := by
  intro h S H KV
  have go : ∀ (c : Int) (g : aH), 0 ≤ c → opB 9 c = true → vw h 72 65 < 0 → mL (vw h) = c → vw g = up (vw h) 72 64 (w32 (vw h 72 64 + 1)) → (mpre (vw g) ∧ kpre (vw g)) ∧ ∀ h1 : aH, (wS h1 ∧ mRes 6 (vw g) (vw h1) ∧ kRes 6 (vw g) (vw h1)) → ∀ h2 : aH, (wS h2 ∧ RLay (vw h1) c 0 (vw h2)) → Pt n X zM261 4 [some (.ref 72)] [] h2 (qN (fun h' => wS h' ∧ mLo 9 (vw h) (vw h') ∧ kLo 9 (vw h) (vw h'))) := by
    intro c g c0 ho hf hc eg
    obtain ⟨q1, q2, q3, q4, q5, q6, q7, q8⟩ := m_here H hf c0 hc eg
    refine ⟨⟨q2, k_up KV q3⟩, fun h1 k1 h2 l => ?_⟩
    obtain ⟨S1, c1, k1⟩ := k1
    obtain ⟨S2, l⟩ := l
    refine pt_q (KL S2 (mRes_p q2 (mRes_y c1 (lay_l l))) (kF_p (Int.le_refl _) KV (k_gl H KV hf c0 hc eg c1 k1 l).1)) ?_
    rintro v h' ⟨ev, p1, p2, p3⟩
    exact ⟨ev, p1, m_step glp9 H hf c0 hc ho eg c1 (lay_l l) p2, k_step klp9 H KV hf c0 hc ho eg c1 k1 l p2 p3⟩
  exact y261_4 S K ⟨fun w => ⟨S, ⟨fun z => by omega, fun _ => ⟨mfr_r _, rfl, rfl⟩⟩, ⟨kFs_r, fun z => by omega⟩⟩, fun hf => ⟨fun n0 => ⟨S, m_out (fun _ _ _ => lp_e glp9) H (fun hf => by rw [← mL_T H.2.2.1.1]; show (_ == 124) = false; rw [beq_false_of_ne n0]), k_out klp9 (fun hf => by rw [← mL_T H.2.2.1.1]; show (_ == 124) = false; rw [beq_false_of_ne n0])⟩, fun e0 g S2 eg => go 124 g (by decide) rfl hf e0 eg⟩⟩
end
section
-- ===== the reference lays a text out =====
theorem k_out12 {V : vS} (h : V 72 65 < 0 → opB 12 (mT V (V 72 64)) = false) : kLo 12 V V :=
  ⟨kFs_r, fun e _ => ⟨_, [], kc_e (h e), rfl, by show V 72 68 = V 72 68 + ((0 : Nat) : Int); omega, trivial⟩⟩
theorem k_cho {V V4 V1 V2 : vS} {c : Int} (H : mlp V) (K : kpre V) (hf : V 72 65 < 0) (c0 : 0 ≤ c) (hc : mL V = c) (ho : opB 12 c = true) (e4 : V4 = up V 72 64 (w32 (V 72 64 + 1))) (c1 : mRes 3 V4 V1) (k1 : kRes 3 V4 V1) (l : RLay V1 c 0 V2) : kLo 12 V V2 := by
  obtain ⟨h1, -⟩ := m_here H hf c0 hc e4
  obtain ⟨F, G⟩ := k_gl H K hf c0 hc e4 c1 k1 l
  refine ⟨F, fun _ n => ?_⟩
  obtain ⟨q1, L1, d1, a1, a2, a3⟩ := G n
  have d := kc_y (T := mT V) (p := V 72 64) (by rw [h1]; exact ho) d1
  rw [h1] at d
  refine ⟨q1, L1 ++ [(c, 0)], d, a1, ?_, a3⟩
  rw [a2, List.length_append]
  show _ = V 72 68 + ((L1.length + 1 : Nat) : Int)
  omega
theorem ek_259 {n : Nat} {X : aX} (K : mv258 n X) : mv259 (n + 1) X := by
  intro h S hp
  refine y259_0 S K ⟨hp, fun h1 k1 => ?_⟩
  obtain ⟨S1, c1, k1⟩ := k1
  have H := mRes_p hp.1 c1
  have KV := kF_p (Int.le_refl _) hp.2 k1.1
  have go : ∀ (c : Int) (g : aH), 0 ≤ c → opB 12 c = true → vw h1 72 65 < 0 → mL (vw h1) = c → vw g = up (vw h1) 72 64 (w32 (vw h1 72 64 + 1)) → (mpre (vw g) ∧ kpre (vw g)) ∧ ∀ h3 : aH, (wS h3 ∧ mRes 3 (vw g) (vw h3) ∧ kRes 3 (vw g) (vw h3)) → ∀ h2 : aH, (wS h2 ∧ RLay (vw h3) (mL (vw h1)) 0 (vw h2)) → wS h2 ∧ mRes 5 (vw h) (vw h2) ∧ kRes 5 (vw h) (vw h2) := by
    intro c g c0 ho hf hc eg
    obtain ⟨q1, q2, q3, -⟩ := m_here H hf c0 hc eg
    refine ⟨⟨q2, k_up KV q3⟩, fun h3 k3 h2 l => ?_⟩
    obtain ⟨S2, l⟩ := l
    rw [hc] at l
    have m2 := m_cho gch12 H hf c0 hc ho eg (mRes_y k3.2.1 (lay_l l))
    exact ⟨S2, m_seq gsq5 hp.1 c1 m2, k_seq ksq5 c1 k1 m2 (k_cho H KV hf c0 hc ho eg k3.2.1 k3.2.2 l)⟩
  have stay : (vw h1 72 65 < 0 → opB 12 (mT (vw h1) (vw h1 72 64)) = false) → wS h1 ∧ mRes 5 (vw h) (vw h1) ∧ kRes 5 (vw h) (vw h1) := fun no => by
    have m2 := m_out (t := 12) (fun _ _ _ => ch_e gch12) H no
    exact ⟨S1, m_seq gsq5 hp.1 c1 m2, k_seq ksq5 c1 k1 m2 (k_out12 no)⟩
  exact ⟨fun w => stay (fun z => by omega), fun hf => ⟨fun e g S2 eg => go 60 g (by decide) rfl hf e eg, fun n0 => ⟨fun e g S2 eg => go 61 g (by decide) rfl hf e eg, fun n1 => ⟨fun e g S2 eg => go 62 g (by decide) rfl hf e eg, fun n2 => stay (fun _ => by rw [← mL_T H.2.2.1.1]; show ((_ == 60 || _ == 61) || _ == 62) = false; rw [beq_false_of_ne n0, beq_false_of_ne n1, beq_false_of_ne n2]; rfl)⟩⟩⟩⟩
end
section
-- ===== the reference lays a text out =====
theorem c_255v {n : Nat} {X : aX} {h : aH} {x0 : Int32} {a0 : Int} (S : wS h) (z0 : x0.toInt = a0) : Pt n X zM255 0 [some (.int x0)] [] h (qI (fun y h' => wS h' ∧ h' = h ∧ R255 a0 y ∧ y = nmV a0)) :=
  pt_d (d255_0 S z0 ⟨fun e => ⟨S, rfl, Or.inl ⟨by rw [e]; rfl, by decide⟩, by rw [e]; decide⟩, fun n98 => ⟨fun e => ⟨S, rfl, Or.inl ⟨by rw [e]; rfl, by decide⟩, by rw [e]; decide⟩, fun n99 => ⟨fun e => ⟨S, rfl, Or.inr ⟨by rw [e]; rfl, by decide⟩, by rw [e]; decide⟩, fun n100 => ⟨fun e => ⟨S, rfl, Or.inl ⟨by rw [e]; rfl, by decide⟩, by rw [e]; decide⟩, fun n101 => ⟨fun e => ⟨S, rfl, Or.inl ⟨by rw [e]; rfl, by decide⟩, by rw [e]; decide⟩, fun n102 => ⟨fun e => ⟨S, rfl, Or.inl ⟨by rw [e]; rfl, by decide⟩, by rw [e]; decide⟩, fun n103 => ⟨fun e => ⟨S, rfl, Or.inr ⟨by rw [e]; rfl, by decide⟩, by rw [e]; decide⟩, fun n104 => ⟨fun e => ⟨S, rfl, Or.inr ⟨by rw [e]; rfl, by decide⟩, by rw [e]; decide⟩, fun n105 => ⟨fun e => ⟨S, rfl, Or.inl ⟨by rw [e]; rfl, by decide⟩, by rw [e]; decide⟩, fun n106 => ⟨fun e => ⟨S, rfl, Or.inl ⟨by rw [e]; rfl, by decide⟩, by rw [e]; decide⟩, fun n107 => ⟨fun e => ⟨S, rfl, Or.inl ⟨by rw [e]; rfl, by decide⟩, by rw [e]; decide⟩, fun n108 => ⟨fun e => ⟨S, rfl, Or.inl ⟨by rw [e]; rfl, by decide⟩, by rw [e]; decide⟩, fun n109 => ⟨fun e => ⟨S, rfl, Or.inr ⟨by rw [e]; rfl, by decide⟩, by rw [e]; decide⟩, fun n110 => ⟨fun e => ⟨S, rfl, Or.inr ⟨by rw [e]; rfl, by decide⟩, by rw [e]; decide⟩, fun n111 => ⟨fun e => ⟨S, rfl, Or.inl ⟨by rw [e]; rfl, by decide⟩, by rw [e]; decide⟩, fun n112 => ⟨fun e => ⟨S, rfl, Or.inr ⟨by rw [e]; rfl, by decide⟩, by rw [e]; decide⟩, fun n113 => ⟨fun e => ⟨S, rfl, Or.inr ⟨by rw [e]; rfl, by decide⟩, by rw [e]; decide⟩, fun n114 => ⟨fun e => ⟨S, rfl, Or.inl ⟨by rw [e]; rfl, by decide⟩, by rw [e]; decide⟩, fun n115 => ⟨fun e => ⟨S, rfl, Or.inl ⟨by rw [e]; rfl, by decide⟩, by rw [e]; decide⟩, fun n116 => ⟨fun e => ⟨S, rfl, Or.inr ⟨by rw [e]; rfl, by decide⟩, by rw [e]; decide⟩, fun n117 => ⟨fun e => ⟨S, rfl, Or.inr ⟨by rw [e]; rfl, by decide⟩, by rw [e]; decide⟩, fun n118 => ⟨fun e => ⟨S, rfl, Or.inr ⟨by rw [e]; rfl, by decide⟩, by rw [e]; decide⟩, fun n119 => ⟨fun e => ⟨S, rfl, Or.inr ⟨by rw [e]; rfl, by decide⟩, by rw [e]; decide⟩, fun n120 => ⟨fun e => ⟨S, rfl, Or.inl ⟨by rw [e]; rfl, by decide⟩, by rw [e]; decide⟩, fun n121 => ⟨S, rfl, Or.inr ⟨(by unfold nmB; simp only [beq_false_of_ne n121, beq_false_of_ne n107, beq_false_of_ne n115, beq_false_of_ne n102, beq_false_of_ne n103, beq_false_of_ne n99, beq_false_of_ne n116, beq_false_of_ne n108, beq_false_of_ne n101, beq_false_of_ne n112, beq_false_of_ne n109, beq_false_of_ne n106, beq_false_of_ne n98, Bool.or_false]), by decide⟩, (by unfold nmV; rw [if_neg n121, if_neg n107, if_neg n115, if_neg n102, if_neg n103, if_neg n99, if_neg n116, if_neg n108, if_neg n101, if_neg n112, if_neg n109, if_neg n106, if_neg n98])⟩⟩⟩⟩⟩⟩⟩⟩⟩⟩⟩⟩⟩⟩⟩⟩⟩⟩⟩⟩⟩⟩⟩⟩⟩)
theorem y256_0 {n : Nat} {X : aX} {h : aH} {P : aH → Prop} (S : wS h) (K256 : mv256 n X) (K261 : mv261 n X) (H : ∀ (y2 : Int) (h_2 : aH), (wS h_2 ∧ h_2 = h ∧ R255 (mL (vw h)) y2 ∧ y2 = nmV (mL (vw h))) → ((y2 < 0 → ((mL (vw h) = 33 → ∀ (y6 : Int) (h_6 : aH), (wS h_6 ∧ R254 (vw h_2) y6 (vw h_6)) → ((y6 ≠ 0 → ((mpre (vw h_6) ∧ kpre (vw h_6)) ∧ ∀ (h_8 : aH), (wS h_8 ∧ mRes 0 (vw h_6) (vw h_8) ∧ kRes 0 (vw h_6) (vw h_8)) → ((mL (vw h) ≠ 33 → ∀ h_12 : aH, wS h_12 → vw h_12 = up (vw h_8) 72 66 (w32 ((vw h_8 72 66) - 1)) → ∀ (h_17 : aH), (wS h_17 ∧ RLay (vw h_12) 4 0 (vw h_17)) → P h_17) ∧ (mL (vw h) = 33 → ∀ h_12 : aH, wS h_12 → vw h_12 = up (vw h_8) 72 66 (w32 ((vw h_8 72 66) - 1)) → ∀ (h_20 : aH), (wS h_20 ∧ RLay (vw h_12) 3 0 (vw h_20)) → P h_20)))) ∧ (y6 = 0 → P h_6))) ∧ (mL (vw h) ≠ 33 → ((mL (vw h) ≠ 45 → ((mL (vw h) ≠ 40 → (∀ (w1 : Int32) (w2 : Int32) (w3 : Int32), w1.toInt = mL (vw h) → w2.toInt = 0 → w3.toInt = 0 → Pt n X zM256 148 [some (.ref 72), some (.int w1), some (.int w2), some (.int w3)] [] h_2 (qN P))) ∧ (mL (vw h) = 40 → ∀ (y27 : Int) (h_27 : aH), (wS h_27 ∧ R254 (vw h_2) y27 (vw h_27)) → ((y27 ≠ 0 → ((mpre (vw h_27) ∧ kpre (vw h_27)) ∧ ∀ (h_29 : aH), (wS h_29 ∧ mRes 8 (vw h_27) (vw h_29) ∧ kRes 8 (vw h_27) (vw h_29)) → ((vw h_29 72 65 < 0 → ((mL (vw h_29) = 41 → ∀ h_42 : aH, wS h_42 → vw h_42 = up (up (vw h_29) 72 66 (w32 ((vw h_29 72 66) - 1))) 72 64 (w32 ((vw h_29 72 64) + 1)) → P h_42) ∧ (mL (vw h_29) ≠ 41 → ∀ (h_43 : aH), (wS h_43 ∧ R252 (vw h_29) (vw h_43)) → P h_43))) ∧ (0 ≤ vw h_29 72 65 → P h_29)))) ∧ (y27 = 0 → P h_27))))) ∧ (mL (vw h) = 45 → ∀ (y44 : Int) (h_44 : aH), (wS h_44 ∧ R254 (vw h_2) y44 (vw h_44)) → ((y44 ≠ 0 → ((mpre (vw h_44) ∧ kpre (vw h_44)) ∧ ∀ (h_46 : aH), (wS h_46 ∧ mRes 0 (vw h_44) (vw h_46) ∧ kRes 0 (vw h_44) (vw h_46)) → ((mL (vw h) ≠ 33 → ∀ h_50 : aH, wS h_50 → vw h_50 = up (vw h_46) 72 66 (w32 ((vw h_46 72 66) - 1)) → ∀ (h_55 : aH), (wS h_55 ∧ RLay (vw h_50) 4 0 (vw h_55)) → P h_55) ∧ (mL (vw h) = 33 → ∀ h_50 : aH, wS h_50 → vw h_50 = up (vw h_46) 72 66 (w32 ((vw h_46 72 66) - 1)) → ∀ (h_58 : aH), (wS h_58 ∧ RLay (vw h_50) 3 0 (vw h_58)) → P h_58)))) ∧ (y44 = 0 → P h_44))))))) ∧ (0 ≤ y2 → ∀ (y60 : Int) (h_60 : aH), (wS h_60 ∧ h_60 = h_2 ∧ R255 (mL (vw h)) y60 ∧ y60 = nmV (mL (vw h))) → ∀ (h_61 : aH), (wS h_61 ∧ RLay (vw h_60) 2 y60 (vw h_61)) → ∀ h_65 : aH, wS h_65 → vw h_65 = up (vw h_61) 72 64 (w32 ((vw h_61 72 64) + 1)) → P h_65))) : Pt (n + 1) X zM256 0 [some (.ref 72), none, none, none] [] h (qN P) := by
  refine pt_1 (fun n d => r_aloadn gx256_0 rfl) ?_
  refine pt_d (pt_virt (as := []) (r := []) gx256_1 rfl (show zmt[251]? = some zM251 from rfl) rfl rfl rfl rfl (c_251 S) (kqP (fun v1 h1 => ?_)))
  show Pt _ _ _ 4 _ [.int v1] _ _
  refine pt_d (pt_1 (fun n d => r_istoren (L' := [some (.ref 72), some (.int v1), none, none]) gx256_4 rfl rfl) ?_)
  refine pt_d (pt_1 (fun n d => r_iloadn gx256_5 rfl) ?_)
  refine pt_d (pt_stat (as := [.int v1]) (r := []) gx256_6 rfl (show zmt[255]? = some zM255 from rfl) rfl rfl rfl rfl (c_255v S h1) (kqI (fun v2 y2 h_2 h2 P2 => ?_)))
  have S2 := P2.1
  have H := H y2 h_2 P2
  show Pt _ _ _ 9 _ [.int v2] _ _
  refine pt_d (pt_if_lt gx256_9 h2 (fun e3 => ?_) (fun e3 => ?_))
  · have H := H.1 e3
    refine pt_d (pt_1 (fun n d => r_iloadn gx256_32 rfl) ?_)
    refine pt_d (pt_bipush gx256_33 (fun v4 h4 => ?_))
    refine pt_d (pt_icmp_eq gx256_35 h1 h4 (fun e5 => ?_) (fun e5 => ?_))
    · have H := H.1 e5
      refine pt_d (pt_1 (fun n d => r_aloadn gx256_44 rfl) ?_)
      refine pt_d (pt_virt (as := []) (r := []) gx256_45 rfl (show zmt[254]? = some zM254 from rfl) rfl rfl rfl rfl (c_254 S2) (kqI (fun v6 y6 h_6 h6 P6 => ?_)))
      have S6 := P6.1
      have H := H y6 h_6 P6
      show Pt _ _ _ 48 _ [.int v6] _ _
      refine pt_d (pt_if_ne gx256_48 h6 (fun e7 => ?_) (fun e7 => ?_))
      · have H := H.1 e7
        refine pt_d (pt_1 (fun n d => r_aloadn gx256_52 rfl) ?_)
        obtain ⟨pr8, H⟩ := H
        refine pt_d (pt_virt (as := []) (r := []) gx256_53 rfl (show zmt[256]? = some zM256 from rfl) rfl rfl rfl rfl (K256 S6 pr8) (kqN (fun h_8 P8 => ?_)))
        have S8 := P8.1
        have H := H h_8 P8
        show Pt _ _ _ 56 _ [] _ _
        refine pt_d (pt_1 (fun n d => r_aloadn gx256_56 rfl) ?_)
        refine pt_d (pt_1 (fun n d => r_dup gx256_57 rfl) ?_)
        refine pt_d (pt_getI (B := 66) gx256_58 S8 (fun v9 h9 => ?_))
        refine pt_d (pt_iconst gx256_61 (fun v10 h10 => ?_))
        refine pt_d (pt_isub gx256_62 h9 h10 (fun v11 h11 => ?_))
        refine pt_d (pt_putI (B := 66) gx256_63 S8 h11 (fun h_12 S12 e12 => ?_))
        refine pt_d (pt_1 (fun n d => r_aloadn gx256_66 rfl) ?_)
        refine pt_d (pt_1 (fun n d => r_iloadn gx256_67 rfl) ?_)
        refine pt_d (pt_bipush gx256_68 (fun v13 h13 => ?_))
        refine pt_d (pt_icmp_ne gx256_70 h1 h13 (fun e14 => ?_) (fun e14 => ?_))
        · have H := H.1 e14
          refine pt_d (pt_iconst gx256_77 (fun v15 h15 => ?_))
          refine pt_d (pt_iconst gx256_78 (fun v16 h16 => ?_))
          have H := H h_12 S12 (by rw [e12])
          refine pt_d (pt_virt (as := [.int v15, .int v16]) (r := []) gx256_79 rfl (show zmt[253]? = some zM253 from rfl) rfl rfl rfl rfl (c_253v S12 h15 h16) (kqN (fun h_17 P17 => ?_)))
          have S17 := P17.1
          have H := H h_17 P17
          show Pt _ _ _ 82 _ [] _ _
          exact pt_d (pt_vret gx256_82 ⟨rfl, H⟩)
        · have H := H.2 e14
          refine pt_d (pt_iconst gx256_73 (fun v18 h18 => ?_))
          refine pt_d (pt_1 (fun n d => r_goto gx256_74) ?_)
          refine pt_d (pt_iconst gx256_78 (fun v19 h19 => ?_))
          have H := H h_12 S12 (by rw [e12])
          refine pt_d (pt_virt (as := [.int v18, .int v19]) (r := []) gx256_79 rfl (show zmt[253]? = some zM253 from rfl) rfl rfl rfl rfl (c_253v S12 h18 h19) (kqN (fun h_20 P20 => ?_)))
          have S20 := P20.1
          have H := H h_20 P20
          show Pt _ _ _ 82 _ [] _ _
          exact pt_d (pt_vret gx256_82 ⟨rfl, H⟩)
      · have H := H.2 e7
        exact pt_d (pt_vret gx256_51 ⟨rfl, H⟩)
    · have H := H.2 e5
      refine pt_d (pt_1 (fun n d => r_iloadn gx256_38 rfl) ?_)
      refine pt_d (pt_bipush gx256_39 (fun v21 h21 => ?_))
      refine pt_d (pt_icmp_ne gx256_41 h1 h21 (fun e22 => ?_) (fun e22 => ?_))
      · have H := H.1 e22
        refine pt_d (pt_1 (fun n d => r_iloadn gx256_83 rfl) ?_)
        refine pt_d (pt_bipush gx256_84 (fun v23 h23 => ?_))
        refine pt_d (pt_icmp_ne gx256_86 h1 h23 (fun e24 => ?_) (fun e24 => ?_))
        · have H := H.1 e24
          refine pt_d (pt_iconst gx256_144 (fun v25 h25 => ?_))
          refine pt_d (pt_1 (fun n d => r_istoren (L' := [some (.ref 72), some (.int v1), some (.int v25), none]) gx256_145 rfl rfl) ?_)
          refine pt_d (pt_iconst gx256_146 (fun v26 h26 => ?_))
          refine pt_d (pt_1 (fun n d => r_istoren (L' := [some (.ref 72), some (.int v1), some (.int v25), some (.int v26)]) gx256_147 rfl rfl) ?_)
          exact H v1 v25 v26 h1 h25 h26
        · have H := H.2 e24
          refine pt_d (pt_1 (fun n d => r_aloadn gx256_89 rfl) ?_)
          refine pt_d (pt_virt (as := []) (r := []) gx256_90 rfl (show zmt[254]? = some zM254 from rfl) rfl rfl rfl rfl (c_254 S2) (kqI (fun v27 y27 h_27 h27 P27 => ?_)))
          have S27 := P27.1
          have H := H y27 h_27 P27
          show Pt _ _ _ 93 _ [.int v27] _ _
          refine pt_d (pt_if_ne gx256_93 h27 (fun e28 => ?_) (fun e28 => ?_))
          · have H := H.1 e28
            refine pt_d (pt_1 (fun n d => r_aloadn gx256_97 rfl) ?_)
            obtain ⟨pr29, H⟩ := H
            refine pt_d (pt_virt (as := []) (r := []) gx256_98 rfl (show zmt[261]? = some zM261 from rfl) rfl rfl rfl rfl (K261 S27 pr29) (kqN (fun h_29 P29 => ?_)))
            have S29 := P29.1
            have H := H h_29 P29
            show Pt _ _ _ 101 _ [] _ _
            refine pt_d (pt_1 (fun n d => r_aloadn gx256_101 rfl) ?_)
            refine pt_d (pt_getI (B := 65) gx256_102 S29 (fun v30 h30 => ?_))
            refine pt_d (pt_if_lt gx256_105 h30 (fun e31 => ?_) (fun e31 => ?_))
            · have H := H.1 e31
              refine pt_d (pt_1 (fun n d => r_aloadn gx256_109 rfl) ?_)
              refine pt_d (pt_virt (as := []) (r := []) gx256_110 rfl (show zmt[251]? = some zM251 from rfl) rfl rfl rfl rfl (c_251 S29) (kqP (fun v32 h32 => ?_)))
              show Pt _ _ _ 113 _ [.int v32] _ _
              refine pt_d (pt_bipush gx256_113 (fun v33 h33 => ?_))
              refine pt_d (pt_icmp_eq gx256_115 h32 h33 (fun e34 => ?_) (fun e34 => ?_))
              · have H := H.1 e34
                refine pt_d (pt_1 (fun n d => r_aloadn gx256_123 rfl) ?_)
                refine pt_d (pt_1 (fun n d => r_dup gx256_124 rfl) ?_)
                refine pt_d (pt_getI (B := 66) gx256_125 S29 (fun v35 h35 => ?_))
                refine pt_d (pt_iconst gx256_128 (fun v36 h36 => ?_))
                refine pt_d (pt_isub gx256_129 h35 h36 (fun v37 h37 => ?_))
                refine pt_d (pt_putI (B := 66) gx256_130 S29 h37 (fun h_38 S38 e38 => ?_))
                refine pt_d (pt_1 (fun n d => r_aloadn gx256_133 rfl) ?_)
                refine pt_d (pt_1 (fun n d => r_dup gx256_134 rfl) ?_)
                refine pt_d (pt_getI (B := 64) gx256_135 S38 (fun v39 h39 => ?_))
                have h39 : v39.toInt = vw h_29 72 64 := by rw [h39, e38, up_j (by decide)]
                refine pt_d (pt_iconst gx256_138 (fun v40 h40 => ?_))
                refine pt_d (pt_iadd gx256_139 h39 h40 (fun v41 h41 => ?_))
                refine pt_d (pt_putI (B := 64) gx256_140 S38 h41 (fun h_42 S42 e42 => ?_))
                have H := H h_42 S42 (by rw [e42, e38])
                exact pt_d (pt_vret gx256_143 ⟨rfl, H⟩)
              · have H := H.2 e34
                refine pt_d (pt_1 (fun n d => r_aloadn gx256_118 rfl) ?_)
                refine pt_d (pt_virt (as := []) (r := []) gx256_119 rfl (show zmt[252]? = some zM252 from rfl) rfl rfl rfl rfl (c_252 S29) (kqN (fun h_43 P43 => ?_)))
                have S43 := P43.1
                have H := H h_43 P43
                show Pt _ _ _ 122 _ [] _ _
                exact pt_d (pt_vret gx256_122 ⟨rfl, H⟩)
            · have H := H.2 e31
              exact pt_d (pt_vret gx256_108 ⟨rfl, H⟩)
          · have H := H.2 e28
            exact pt_d (pt_vret gx256_96 ⟨rfl, H⟩)
      · have H := H.2 e22
        refine pt_d (pt_1 (fun n d => r_aloadn gx256_44 rfl) ?_)
        refine pt_d (pt_virt (as := []) (r := []) gx256_45 rfl (show zmt[254]? = some zM254 from rfl) rfl rfl rfl rfl (c_254 S2) (kqI (fun v44 y44 h_44 h44 P44 => ?_)))
        have S44 := P44.1
        have H := H y44 h_44 P44
        show Pt _ _ _ 48 _ [.int v44] _ _
        refine pt_d (pt_if_ne gx256_48 h44 (fun e45 => ?_) (fun e45 => ?_))
        · have H := H.1 e45
          refine pt_d (pt_1 (fun n d => r_aloadn gx256_52 rfl) ?_)
          obtain ⟨pr46, H⟩ := H
          refine pt_d (pt_virt (as := []) (r := []) gx256_53 rfl (show zmt[256]? = some zM256 from rfl) rfl rfl rfl rfl (K256 S44 pr46) (kqN (fun h_46 P46 => ?_)))
          have S46 := P46.1
          have H := H h_46 P46
          show Pt _ _ _ 56 _ [] _ _
          refine pt_d (pt_1 (fun n d => r_aloadn gx256_56 rfl) ?_)
          refine pt_d (pt_1 (fun n d => r_dup gx256_57 rfl) ?_)
          refine pt_d (pt_getI (B := 66) gx256_58 S46 (fun v47 h47 => ?_))
          refine pt_d (pt_iconst gx256_61 (fun v48 h48 => ?_))
          refine pt_d (pt_isub gx256_62 h47 h48 (fun v49 h49 => ?_))
          refine pt_d (pt_putI (B := 66) gx256_63 S46 h49 (fun h_50 S50 e50 => ?_))
          refine pt_d (pt_1 (fun n d => r_aloadn gx256_66 rfl) ?_)
          refine pt_d (pt_1 (fun n d => r_iloadn gx256_67 rfl) ?_)
          refine pt_d (pt_bipush gx256_68 (fun v51 h51 => ?_))
          refine pt_d (pt_icmp_ne gx256_70 h1 h51 (fun e52 => ?_) (fun e52 => ?_))
          · have H := H.1 e52
            refine pt_d (pt_iconst gx256_77 (fun v53 h53 => ?_))
            refine pt_d (pt_iconst gx256_78 (fun v54 h54 => ?_))
            have H := H h_50 S50 (by rw [e50])
            refine pt_d (pt_virt (as := [.int v53, .int v54]) (r := []) gx256_79 rfl (show zmt[253]? = some zM253 from rfl) rfl rfl rfl rfl (c_253v S50 h53 h54) (kqN (fun h_55 P55 => ?_)))
            have S55 := P55.1
            have H := H h_55 P55
            show Pt _ _ _ 82 _ [] _ _
            exact pt_d (pt_vret gx256_82 ⟨rfl, H⟩)
          · have H := H.2 e52
            refine pt_d (pt_iconst gx256_73 (fun v56 h56 => ?_))
            refine pt_d (pt_1 (fun n d => r_goto gx256_74) ?_)
            refine pt_d (pt_iconst gx256_78 (fun v57 h57 => ?_))
            have H := H h_50 S50 (by rw [e50])
            refine pt_d (pt_virt (as := [.int v56, .int v57]) (r := []) gx256_79 rfl (show zmt[253]? = some zM253 from rfl) rfl rfl rfl rfl (c_253v S50 h56 h57) (kqN (fun h_58 P58 => ?_)))
            have S58 := P58.1
            have H := H h_58 P58
            show Pt _ _ _ 82 _ [] _ _
            exact pt_d (pt_vret gx256_82 ⟨rfl, H⟩)
        · have H := H.2 e45
          exact pt_d (pt_vret gx256_51 ⟨rfl, H⟩)
  · have H := H.2 e3
    refine pt_d (pt_1 (fun n d => r_aloadn gx256_12 rfl) ?_)
    refine pt_d (pt_iconst gx256_13 (fun v59 h59 => ?_))
    refine pt_d (pt_1 (fun n d => r_iloadn gx256_14 rfl) ?_)
    refine pt_d (pt_stat (as := [.int v1]) (r := [.int v59, .ref 72]) gx256_15 rfl (show zmt[255]? = some zM255 from rfl) rfl rfl rfl rfl (c_255v S2 h1) (kqI (fun v60 y60 h_60 h60 P60 => ?_)))
    have S60 := P60.1
    have H := H y60 h_60 P60
    show Pt _ _ _ 18 _ [.int v60, .int v59, .ref 72] _ _
    refine pt_d (pt_virt (as := [.int v59, .int v60]) (r := []) gx256_18 rfl (show zmt[253]? = some zM253 from rfl) rfl rfl rfl rfl (c_253v S60 h59 h60) (kqN (fun h_61 P61 => ?_)))
    have S61 := P61.1
    have H := H h_61 P61
    show Pt _ _ _ 21 _ [] _ _
    refine pt_d (pt_1 (fun n d => r_aloadn gx256_21 rfl) ?_)
    refine pt_d (pt_1 (fun n d => r_dup gx256_22 rfl) ?_)
    refine pt_d (pt_getI (B := 64) gx256_23 S61 (fun v62 h62 => ?_))
    refine pt_d (pt_iconst gx256_26 (fun v63 h63 => ?_))
    refine pt_d (pt_iadd gx256_27 h62 h63 (fun v64 h64 => ?_))
    refine pt_d (pt_putI (B := 64) gx256_28 S61 h64 (fun h_65 S65 e65 => ?_))
    have H := H h_65 S65 (by rw [e65])
    exact pt_d (pt_vret gx256_31 ⟨rfl, H⟩)
theorem y256_148 {n : Nat} {X : aX} {h : aH} {P : aH → Prop} {x1 x2 x3 : Int32} {a1 a2 a3 : Int} (S : wS h) (z1 : x1.toInt = a1) (z2 : x2.toInt = a2) (z3 : x3.toInt = a3) (H : ((6 ≤ a2 → ((a2 = 0 → ∀ (h_4 : aH), (wS h_4 ∧ R252 (vw h) (vw h_4)) → P h_4) ∧ (a2 ≠ 0 → ((¬ (48 ≤ (mL (vw h)) ∧ (mL (vw h)) ≤ 57) → ∀ (h_11 : aH), (wS h_11 ∧ RLay (vw h) 1 a3 (vw h_11)) → P h_11) ∧ ((48 ≤ (mL (vw h)) ∧ (mL (vw h)) ≤ 57) → ∀ (h_12 : aH), (wS h_12 ∧ R252 (vw h) (vw h_12)) → P h_12))))) ∧ (a2 < 6 → ((¬ (48 ≤ (mL (vw h)) ∧ (mL (vw h)) ≤ 57) → ((a2 = 0 → ∀ (h_19 : aH), (wS h_19 ∧ R252 (vw h) (vw h_19)) → P h_19) ∧ (a2 ≠ 0 → ((¬ (48 ≤ (mL (vw h)) ∧ (mL (vw h)) ≤ 57) → ∀ (h_26 : aH), (wS h_26 ∧ RLay (vw h) 1 a3 (vw h_26)) → P h_26) ∧ ((48 ≤ (mL (vw h)) ∧ (mL (vw h)) ≤ 57) → ∀ (h_27 : aH), (wS h_27 ∧ R252 (vw h) (vw h_27)) → P h_27))))) ∧ ((48 ≤ (mL (vw h)) ∧ (mL (vw h)) ≤ 57) → ∀ h_38 : aH, wS h_38 → vw h_38 = up (vw h) 72 64 (w32 ((vw h 72 64) + 1)) → (∀ (w2 : Int32) (w3 : Int32), w2.toInt = w32 (a2 + 1) → w3.toInt = w32 ((w32 ((w32 (10 * a3)) + (mL (vw h)))) - 48) → Pt n X zM256 148 [some (.ref 72), some (.int x1), some (.int w2), some (.int w3)] [] h_38 (qN P))))))) : Pt (n + 1) X zM256 148 [some (.ref 72), some (.int x1), some (.int x2), some (.int x3)] [] h (qN P) := by
  refine pt_1 (fun n d => r_iloadn gx256_148 rfl) ?_
  refine pt_d (pt_bipush gx256_149 (fun v1 h1 => ?_))
  refine pt_d (pt_icmp_ge gx256_151 z2 h1 (fun e2 => ?_) (fun e2 => ?_))
  · have H := H.1 e2
    refine pt_d (pt_1 (fun n d => r_iloadn gx256_197 rfl) ?_)
    refine pt_d (pt_if_eq gx256_198 z2 (fun e3 => ?_) (fun e3 => ?_))
    · have H := H.1 e3
      refine pt_d (pt_1 (fun n d => r_aloadn gx256_215 rfl) ?_)
      refine pt_d (pt_virt (as := []) (r := []) gx256_216 rfl (show zmt[252]? = some zM252 from rfl) rfl rfl rfl rfl (c_252 S) (kqN (fun h_4 P4 => ?_)))
      have S4 := P4.1
      have H := H h_4 P4
      show Pt _ _ _ 219 _ [] _ _
      refine pt_d (pt_1 (fun n d => r_goto gx256_219) ?_)
      exact pt_d (pt_vret gx256_228 ⟨rfl, H⟩)
    · have H := H.2 e3
      refine pt_d (pt_1 (fun n d => r_aloadn gx256_201 rfl) ?_)
      refine pt_d (pt_virt (as := []) (r := []) gx256_202 rfl (show zmt[251]? = some zM251 from rfl) rfl rfl rfl rfl (c_251 S) (kqP (fun v5 h5 => ?_)))
      show Pt _ _ _ 205 _ [.int v5] _ _
      refine pt_d (pt_bipush gx256_205 (fun v6 h6 => ?_))
      refine pt_d (pt_bipush gx256_207 (fun v7 h7 => ?_))
      refine pt_d (pt_stat (as := [.int v5, .int v6, .int v7]) (r := []) gx256_209 rfl (show zmt[196]? = some zM196 from rfl) rfl rfl rfl rfl (c_196 S h5 h6 h7) (kqP (fun v8 h8 => ?_)))
      show Pt _ _ _ 212 _ [.int v8] _ _
      refine pt_d (pt_ifB_eq gx256_212 h8 (fun e9 => ?_) (fun e9 => ?_))
      · have H := H.1 e9
        refine pt_d (pt_1 (fun n d => r_aloadn gx256_222 rfl) ?_)
        refine pt_d (pt_iconst gx256_223 (fun v10 h10 => ?_))
        refine pt_d (pt_1 (fun n d => r_iloadn gx256_224 rfl) ?_)
        refine pt_d (pt_virt (as := [.int v10, .int x3]) (r := []) gx256_225 rfl (show zmt[253]? = some zM253 from rfl) rfl rfl rfl rfl (c_253v S h10 z3) (kqN (fun h_11 P11 => ?_)))
        have S11 := P11.1
        have H := H h_11 P11
        show Pt _ _ _ 228 _ [] _ _
        exact pt_d (pt_vret gx256_228 ⟨rfl, H⟩)
      · have H := H.2 e9
        refine pt_d (pt_1 (fun n d => r_aloadn gx256_215 rfl) ?_)
        refine pt_d (pt_virt (as := []) (r := []) gx256_216 rfl (show zmt[252]? = some zM252 from rfl) rfl rfl rfl rfl (c_252 S) (kqN (fun h_12 P12 => ?_)))
        have S12 := P12.1
        have H := H h_12 P12
        show Pt _ _ _ 219 _ [] _ _
        refine pt_d (pt_1 (fun n d => r_goto gx256_219) ?_)
        exact pt_d (pt_vret gx256_228 ⟨rfl, H⟩)
  · have H := H.2 e2
    refine pt_d (pt_1 (fun n d => r_aloadn gx256_154 rfl) ?_)
    refine pt_d (pt_virt (as := []) (r := []) gx256_155 rfl (show zmt[251]? = some zM251 from rfl) rfl rfl rfl rfl (c_251 S) (kqP (fun v13 h13 => ?_)))
    show Pt _ _ _ 158 _ [.int v13] _ _
    refine pt_d (pt_bipush gx256_158 (fun v14 h14 => ?_))
    refine pt_d (pt_bipush gx256_160 (fun v15 h15 => ?_))
    refine pt_d (pt_stat (as := [.int v13, .int v14, .int v15]) (r := []) gx256_162 rfl (show zmt[196]? = some zM196 from rfl) rfl rfl rfl rfl (c_196 S h13 h14 h15) (kqP (fun v16 h16 => ?_)))
    show Pt _ _ _ 165 _ [.int v16] _ _
    refine pt_d (pt_ifB_eq gx256_165 h16 (fun e17 => ?_) (fun e17 => ?_))
    · have H := H.1 e17
      refine pt_d (pt_1 (fun n d => r_iloadn gx256_197 rfl) ?_)
      refine pt_d (pt_if_eq gx256_198 z2 (fun e18 => ?_) (fun e18 => ?_))
      · have H := H.1 e18
        refine pt_d (pt_1 (fun n d => r_aloadn gx256_215 rfl) ?_)
        refine pt_d (pt_virt (as := []) (r := []) gx256_216 rfl (show zmt[252]? = some zM252 from rfl) rfl rfl rfl rfl (c_252 S) (kqN (fun h_19 P19 => ?_)))
        have S19 := P19.1
        have H := H h_19 P19
        show Pt _ _ _ 219 _ [] _ _
        refine pt_d (pt_1 (fun n d => r_goto gx256_219) ?_)
        exact pt_d (pt_vret gx256_228 ⟨rfl, H⟩)
      · have H := H.2 e18
        refine pt_d (pt_1 (fun n d => r_aloadn gx256_201 rfl) ?_)
        refine pt_d (pt_virt (as := []) (r := []) gx256_202 rfl (show zmt[251]? = some zM251 from rfl) rfl rfl rfl rfl (c_251 S) (kqP (fun v20 h20 => ?_)))
        show Pt _ _ _ 205 _ [.int v20] _ _
        refine pt_d (pt_bipush gx256_205 (fun v21 h21 => ?_))
        refine pt_d (pt_bipush gx256_207 (fun v22 h22 => ?_))
        refine pt_d (pt_stat (as := [.int v20, .int v21, .int v22]) (r := []) gx256_209 rfl (show zmt[196]? = some zM196 from rfl) rfl rfl rfl rfl (c_196 S h20 h21 h22) (kqP (fun v23 h23 => ?_)))
        show Pt _ _ _ 212 _ [.int v23] _ _
        refine pt_d (pt_ifB_eq gx256_212 h23 (fun e24 => ?_) (fun e24 => ?_))
        · have H := H.1 e24
          refine pt_d (pt_1 (fun n d => r_aloadn gx256_222 rfl) ?_)
          refine pt_d (pt_iconst gx256_223 (fun v25 h25 => ?_))
          refine pt_d (pt_1 (fun n d => r_iloadn gx256_224 rfl) ?_)
          refine pt_d (pt_virt (as := [.int v25, .int x3]) (r := []) gx256_225 rfl (show zmt[253]? = some zM253 from rfl) rfl rfl rfl rfl (c_253v S h25 z3) (kqN (fun h_26 P26 => ?_)))
          have S26 := P26.1
          have H := H h_26 P26
          show Pt _ _ _ 228 _ [] _ _
          exact pt_d (pt_vret gx256_228 ⟨rfl, H⟩)
        · have H := H.2 e24
          refine pt_d (pt_1 (fun n d => r_aloadn gx256_215 rfl) ?_)
          refine pt_d (pt_virt (as := []) (r := []) gx256_216 rfl (show zmt[252]? = some zM252 from rfl) rfl rfl rfl rfl (c_252 S) (kqN (fun h_27 P27 => ?_)))
          have S27 := P27.1
          have H := H h_27 P27
          show Pt _ _ _ 219 _ [] _ _
          refine pt_d (pt_1 (fun n d => r_goto gx256_219) ?_)
          exact pt_d (pt_vret gx256_228 ⟨rfl, H⟩)
    · have H := H.2 e17
      refine pt_d (pt_bipush gx256_168 (fun v28 h28 => ?_))
      refine pt_d (pt_1 (fun n d => r_iloadn gx256_170 rfl) ?_)
      refine pt_d (pt_imul gx256_171 h28 z3 (fun v29 h29 => ?_))
      refine pt_d (pt_1 (fun n d => r_aloadn gx256_172 rfl) ?_)
      refine pt_d (pt_virt (as := []) (r := [.int v29]) gx256_173 rfl (show zmt[251]? = some zM251 from rfl) rfl rfl rfl rfl (c_251 S) (kqP (fun v30 h30 => ?_)))
      show Pt _ _ _ 176 _ [.int v30, .int v29] _ _
      refine pt_d (pt_iadd gx256_176 h29 h30 (fun v31 h31 => ?_))
      refine pt_d (pt_bipush gx256_177 (fun v32 h32 => ?_))
      refine pt_d (pt_isub gx256_179 h31 h32 (fun v33 h33 => ?_))
      refine pt_d (pt_1 (fun n d => r_istoren (L' := [some (.ref 72), some (.int x1), some (.int x2), some (.int v33)]) gx256_180 rfl rfl) ?_)
      refine pt_d (pt_iinc (c := 1) gx256_181 rfl z2 (fun v34 h34 => ?_))
      show Pt _ _ _ _ [some (.ref 72), some (.int x1), some (.int v34), some (.int v33)] [] _ _
      refine pt_d (pt_1 (fun n d => r_aloadn gx256_184 rfl) ?_)
      refine pt_d (pt_1 (fun n d => r_dup gx256_185 rfl) ?_)
      refine pt_d (pt_getI (B := 64) gx256_186 S (fun v35 h35 => ?_))
      refine pt_d (pt_iconst gx256_189 (fun v36 h36 => ?_))
      refine pt_d (pt_iadd gx256_190 h35 h36 (fun v37 h37 => ?_))
      refine pt_d (pt_putI (B := 64) gx256_191 S h37 (fun h_38 S38 e38 => ?_))
      refine pt_d (pt_1 (fun n d => r_goto gx256_194) ?_)
      have H := H h_38 S38 (by rw [e38])
      exact H v34 v33 h34 h33
theorem l_256v {X : aX} {V : vS} (nn : nmB (mT V (V 72 64)) = false) (n3 : mT V (V 72 64) ≠ 33) (n4 : mT V (V 72 64) ≠ 45) (n5 : mT V (V 72 64) ≠ 40) (HV : mpre V) (KV : kpre V) : ∀ (n : Nat) (h : aH) (x1 x2 x3 : Int32) (j : Nat) (v : Int), wS h → j ≤ 6 → x2.toInt = 6 - (j : Int) → x3.toInt = v → vw h = up V 72 64 (V 72 64 + (6 - (j : Int))) → dgEnd (mT V) 6 (V 72 64) = dgEnd (mT V) j (V 72 64 + (6 - (j : Int))) → dgVal (mT V) 6 (V 72 64) 0 = dgVal (mT V) j (V 72 64 + (6 - (j : Int))) v → V 72 64 + (6 - (j : Int)) ≤ V 72 54 → Pt n X zM256 148 [some (.ref 72), some (.int x1), some (.int x2), some (.int x3)] [] h (qN (fun h' => kRes 0 V (vw h'))) := by
  intro n
  induction n with
  | zero => exact fun _ _ _ _ _ _ _ _ _ _ _ _ _ _ => pt_z
  | succ n ih =>
    intro h x1 x2 x3 j v S hj h2 h3 ev ed edv hl
    have h0 := HV.2.2.1
    have h160 := HV.2.2.2
    have h64 : vw h 72 64 = V 72 64 + (6 - (j : Int)) := by rw [ev, up_s]
    have T' : mT (vw h) = mT V := by rw [ev]; exact mfr_T (mfr_u (mfr_r V) (Or.inl rfl))
    have mLe : mL (vw h) = mT V (V 72 64 + (6 - (j : Int))) := by rw [mL_T (by omega), T', h64]
    have h65 : vw h 72 65 = -1 := by rw [ev, up_j (by decide)]; exact HV.1
    have Fh : kFs (-(6 - (j : Int))) V (vw h) := by rw [ev]; exact kFs_i (up_fr (by omega)) (by rw [up_s]; omega)
    have Kh : kpre (vw h) := kF_p (by omega) KV Fh
    have hD : ∀ c : Int, (48 ≤ c ∧ c ≤ 57) ↔ isD c = true := fun c => by unfold isD; rw [decide_eq_true_eq]
    have bad : ∀ g : aH, (wS g ∧ R252 (vw h) (vw g)) → kRes 0 V (vw g) := by
      intro g k
      rcases k.2 with ⟨z, -⟩ | ⟨-, z⟩
      · omega
      · rw [z]
        have F2 := kFs_t Fh (kFs_i (s := 0) (V := vw h) (V' := up (vw h) 72 65 (vw h 72 64)) (up_fr (by omega)) (by rw [up_j (by decide)]; omega))
        refine ⟨⟨F2.1, F2.2.1, F2.2.2.1, by have := F2.2.2.2; omega⟩, fun w => ?_⟩
        rw [up_s] at w
        omega
    have good : dgEnd (mT V) 6 (V 72 64) = V 72 64 + (6 - (j : Int)) → dgVal (mT V) 6 (V 72 64) 0 = v → j < 6 → ¬ isD (mT V (dgEnd (mT V) 6 (V 72 64))) = true → ∀ g : aH, (wS g ∧ RLay (vw h) 1 v (vw g)) → kRes 0 V (vw g) := by
      intro d dv j6 nd g k
      obtain ⟨lF, l68, lc, l64, l65⟩ := lay_F Kh (by omega) k.2
      have F := kFs_t Fh lF
      have e67 := kFs_67 Fh
      have e68 : vw h 72 68 = V 72 68 := by rw [ev, up_j (by decide)]
      refine ⟨⟨F.1, F.2.1, F.2.2.1, by have := F.2.2.2; omega⟩, fun _ => ⟨_, _, ko_no nn n3 n4 n5 (fun z => z.elim (fun z => by omega) nd), by rw [l64, h64, d], ?_, ?_⟩⟩
      · rw [l68, e68]
        rfl
      · rw [e67, e68] at lc
        rw [dv]
        exact ⟨lc, trivial⟩
    have fin : dgEnd (mT V) 6 (V 72 64) = V 72 64 + (6 - (j : Int)) → dgVal (mT V) 6 (V 72 64) 0 = v → ((x2.toInt = 0 → ∀ g : aH, (wS g ∧ R252 (vw h) (vw g)) → kRes 0 V (vw g)) ∧ (x2.toInt ≠ 0 → ((¬ (48 ≤ (mL (vw h)) ∧ (mL (vw h)) ≤ 57) → ∀ g : aH, (wS g ∧ RLay (vw h) 1 x3.toInt (vw g)) → kRes 0 V (vw g)) ∧ ((48 ≤ (mL (vw h)) ∧ (mL (vw h)) ≤ 57) → ∀ g : aH, (wS g ∧ R252 (vw h) (vw g)) → kRes 0 V (vw g))))) := by
      intro d dv
      refine ⟨fun _ => bad, fun e => ⟨fun nd => ?_, fun _ => bad⟩⟩
      rw [h3]
      exact good d dv (by omega) (fun z => by rw [d, ← mLe] at z; exact nd ((hD _).mpr z))
    refine y256_148 S rfl rfl rfl ⟨fun e1 => ?_, fun e1 => ⟨fun nd => ?_, fun dd g S2 eg w2 w3 g2 g3 => ?_⟩⟩
    · obtain rfl : j = 0 := by omega
      exact fin ed edv
    · obtain ⟨i, rfl⟩ : ∃ i, j = i + 1 := ⟨j - 1, by omega⟩
      have z : isD (mT V (V 72 64 + (6 - ((i + 1 : Nat) : Int)))) = false := by
        cases w : isD (mT V (V 72 64 + (6 - ((i + 1 : Nat) : Int)))) with
        | false => rfl
        | true => rw [← mLe] at w; exact absurd ((hD _).mpr w) nd
      have e : dgEnd (mT V) (i + 1) (V 72 64 + (6 - ((i + 1 : Nat) : Int))) = bif isD (mT V (V 72 64 + (6 - ((i + 1 : Nat) : Int)))) then dgEnd (mT V) i (V 72 64 + (6 - ((i + 1 : Nat) : Int)) + 1) else V 72 64 + (6 - ((i + 1 : Nat) : Int)) := rfl
      have e' : dgVal (mT V) (i + 1) (V 72 64 + (6 - ((i + 1 : Nat) : Int))) v = bif isD (mT V (V 72 64 + (6 - ((i + 1 : Nat) : Int)))) then dgVal (mT V) i (V 72 64 + (6 - ((i + 1 : Nat) : Int)) + 1) (w32 (w32 (w32 (v * 10) + mT V (V 72 64 + (6 - ((i + 1 : Nat) : Int)))) - 48)) else v := rfl
      rw [z] at e e'
      exact fin (ed.trans e) (edv.trans e')
    · obtain ⟨i, rfl⟩ : ∃ i, j = i + 1 := ⟨j - 1, by omega⟩
      have z : isD (mT V (V 72 64 + (6 - ((i + 1 : Nat) : Int)))) = true := by rw [← mLe]; exact (hD _).mp dd
      have e : dgEnd (mT V) (i + 1) (V 72 64 + (6 - ((i + 1 : Nat) : Int))) = bif isD (mT V (V 72 64 + (6 - ((i + 1 : Nat) : Int)))) then dgEnd (mT V) i (V 72 64 + (6 - ((i + 1 : Nat) : Int)) + 1) else V 72 64 + (6 - ((i + 1 : Nat) : Int)) := rfl
      have e' : dgVal (mT V) (i + 1) (V 72 64 + (6 - ((i + 1 : Nat) : Int))) v = bif isD (mT V (V 72 64 + (6 - ((i + 1 : Nat) : Int)))) then dgVal (mT V) i (V 72 64 + (6 - ((i + 1 : Nat) : Int)) + 1) (w32 (w32 (w32 (v * 10) + mT V (V 72 64 + (6 - ((i + 1 : Nat) : Int)))) - 48)) else v := rfl
      rw [z] at e e'
      have lt : V 72 64 + (6 - ((i + 1 : Nat) : Int)) < V 72 54 := mT_lt (fun w => by rw [w] at z; cases z)
      replace g2 := w_1 g2 (by omega) (by omega)
      have ee : V 72 64 + (6 - ((i + 1 : Nat) : Int)) + 1 = V 72 64 + (6 - (i : Int)) := by omega
      rw [h64, w32_id (by omega) (by omega), ee, ev, up_up] at eg
      rw [ee] at e e'
      rw [h3, mLe, Int.mul_comm] at g3
      exact ih g x1 w2 w3 i _ S2 (by omega) (by omega) g3 eg (ed.trans e) (edv.trans e') (by omega)
end
section
-- ===== the reference lays a text out =====
theorem ek_256 {n : Nat} {X : aX} (C : mt256 (n + 1) X) (K6 : mv256 n X) (K1 : mv261 n X) : mv256 (n + 1) X := by
  intro h S hp
  refine pt_q (pt_and (C S hp.1) (show Pt (n + 1) X zM256 0 [some (.ref 72), none, none, none] [] h (qN (fun h' => kRes 0 (vw h) (vw h'))) from ?_)) ?_
  · obtain ⟨hp, KV⟩ := hp
    have h0 := hp.2.2.1
    have h160 := hp.2.2.2
    have hm := mL_T (V := vw h) h0.1
    have wo : ∀ {z : Int}, 0 ≤ z → z ≤ 160 → w32 (z + 1) = z + 1 := fun _ _ => w32_id (by omega) (by omega)
    -- at depth eight
    have sh : ∀ (y : Int) (g : aH), (wS g ∧ R254 (vw h) y (vw g)) → y = 0 → kRes 0 (vw h) (vw g) := by
      intro y g k e
      rcases k.2 with ⟨z, -⟩ | ⟨-, z, w⟩
      · omega
      · rcases w with ⟨w, -⟩ | ⟨-, w⟩
        · have := hp.1
          omega
        · rw [w]
          refine ⟨kFs_i (s := 0) (up_fr (by omega)) (by rw [up_j (by decide)]; omega), fun u => ?_⟩
          rw [up_s] at u
          omega
    -- it opens
    have op : ∀ (y : Int) (g : aH), (mT (vw h) (vw h 72 64) = 33 ∨ mT (vw h) (vw h 72 64) = 45 ∨ mT (vw h) (vw h 72 64) = 40) → R254 (vw h) y (vw g) → y ≠ 0 → vw h 72 66 ≠ 8 ∧ (mpre (vw g) ∧ kpre (vw g)) ∧ vw g 72 64 = vw h 72 64 + 1 ∧ vw g 72 66 = vw h 72 66 + 1 ∧ mT (vw g) = mT (vw h) ∧ vw g 72 54 = vw h 72 54 ∧ kFs (-1) (vw h) (vw g) ∧ vw g 72 68 = vw h 72 68 := by
      intro y g c k e
      have lt : vw h 72 64 < vw h 72 54 := mT_lt (by omega)
      rcases k with ⟨-, z, w⟩ | ⟨z, -⟩
      · have h66 := hp.2.1
        rw [wo h66.1 (by omega), wo h0.1 (by omega)] at w
        have F : mfr (vw h) (vw g) := by rw [w]; exact mfr_u (mfr_u (mfr_r _) (Or.inr (Or.inr (Or.inl rfl)))) (Or.inl rfl)
        have a1 : vw g 72 64 = vw h 72 64 + 1 := by rw [w, up_s]
        have a2 : vw g 72 66 = vw h 72 66 + 1 := by rw [w, up_j (by decide), up_s]
        have a3 : vw g 72 65 = -1 := by rw [w, up_j (by decide), up_j (by decide)]; exact hp.1
        have a4 := mfr_54 F
        have F4 : kFs (-1) (vw h) (vw g) := kFs_i (fun c j z => by rw [w, up_fr (by omega) c j z, up_fr (by omega) c j z]) (by omega)
        exact ⟨z, ⟨⟨a3, by rw [a2]; omega, by rw [a1, a4]; omega, by rw [a4]; exact h160⟩, kF_p (by decide) KV F4⟩, a1, a2, mfr_T F, a4, F4, by rw [w, up_j (by decide), up_j (by decide)]⟩
      · exact absurd z e
    -- behind ! or -
    have un : ∀ (y w : Int) (g h8 h12 h17 : aH), ((mT (vw h) (vw h 72 64) = 33 ∧ w = 3) ∨ (mT (vw h) (vw h 72 64) = 45 ∧ w = 4)) → R254 (vw h) y (vw g) → y ≠ 0 → mRes 0 (vw g) (vw h8) → kRes 0 (vw g) (vw h8) → vw h12 = up (vw h8) 72 66 (w32 (vw h8 72 66 - 1)) → (wS h17 ∧ RLay (vw h12) w 0 (vw h17)) → kRes 0 (vw h) (vw h17) := by
      intro y w g h8 h12 h17 c k e c1 k1 e12 l
      obtain ⟨o1, o2, o3, o4, o5, o6, o7, o8⟩ := op y g (by omega) k e
      have fr : ∀ c j, (c = 119 ∨ c = 120 ∨ c = 121 ∨ c = 122 ∨ c = 123 ∨ (c = 72 ∧ (j = 67 ∨ j = 68))) → vw h12 c j = vw h8 c j := fun c j z => by rw [e12]; exact up_fr (by omega) c j z
      have e64 : vw h12 72 64 = vw h8 72 64 := by rw [e12, up_j (by decide)]
      have e65 : vw h12 72 65 = vw h8 72 65 := by rw [e12, up_j (by decide)]
      have k12 : vw h12 72 65 < 0 → kOk 0 (vw h 72 66 + 1) (vw g 72 64) (vw g) (vw h12) := fun z => by
        obtain ⟨q, L, d, a1, a2, a3⟩ := k1.2 (by omega)
        rw [o4] at d
        exact ⟨q, L, d, e64.trans a1, (fr 72 68 (by omega)).trans a2, cAt_k L _ (fun j _ _ => ⟨fr 122 j (by omega), fr 123 j (by omega)⟩) a3⟩
      obtain ⟨F, G⟩ := k_lay (o := vw h 72 66 + 1) KV o7 o3 o5 o8 (by rw [e64]; exact mRes_q c1 (by omega)) (kFs_j fr e64 k1.1) k12 l.2
      refine ⟨F, fun n => ?_⟩
      obtain ⟨q, L, d, a1, a2, a3⟩ := G n
      refine ⟨q, L ++ [(w, 0)], ko_un c o1 d, a1, ?_, a3⟩
      rw [a2, List.length_append]
      show _ = vw h 72 68 + ((L.length + 1 : Nat) : Int)
      omega
    refine y256_0 S K6 K1 (fun y2 h2 k2 => ?_)
    obtain ⟨S2, rfl, k2, v2⟩ := k2
    refine ⟨fun e2 => ?_, fun e2 y60 h60 k60 h61 k61 h65 S65 e65 => ?_⟩
    · have nn : nmB (mT (vw h2) (vw h2 72 64)) = false := by
        rw [← hm]
        rcases k2 with ⟨-, z⟩ | ⟨z, -⟩
        · omega
        · exact z
      rw [hm]
      refine ⟨fun e3 y6 h6 k6 => ⟨fun e6 => ⟨(op y6 h6 (Or.inl e3) k6.2 e6).2.1, fun h8 k8 => ⟨fun z => absurd e3 z, fun _ h12 S12 e12 h20 k20 => un y6 3 h6 h8 h12 h20 (Or.inl ⟨e3, rfl⟩) k6.2 e6 k8.2.1 k8.2.2 e12 k20⟩⟩, fun e6 => sh y6 h6 k6 e6⟩, fun n3 => ⟨fun n4 => ⟨fun n5 w1 w2 w3 g1 g2 g3 => ?_, fun e5 y27 h27 k27 => ?_⟩, fun e4 y44 h44 k44 => ⟨fun e6 => ⟨(op y44 h44 (Or.inr (Or.inl e4)) k44.2 e6).2.1, fun h46 k46 => ⟨fun _ h50 S50 e50 h55 k55 => un y44 4 h44 h46 h50 h55 (Or.inr ⟨e4, rfl⟩) k44.2 e6 k46.2.1 k46.2.2 e50 k55, fun z => absurd z n3⟩⟩, fun e6 => sh y44 h44 k44 e6⟩⟩⟩
      · exact l_256v (V := vw h2) nn n3 n4 n5 hp KV n h2 w1 w2 w3 6 0 S2 (Nat.le_refl _) (by omega) g3 (by rw [show vw h2 72 64 + (6 - ((6 : Nat) : Int)) = vw h2 72 64 by omega, up_id]) (by rw [show vw h2 72 64 + (6 - ((6 : Nat) : Int)) = vw h2 72 64 by omega]) (by rw [show vw h2 72 64 + (6 - ((6 : Nat) : Int)) = vw h2 72 64 by omega]) (by omega)
      · refine ⟨fun e6 => ?_, fun e6 => sh y27 h27 k27 e6⟩
        obtain ⟨o1, o2, o3, o4, o5, o6, o7, o8⟩ := op y27 h27 (Or.inr (Or.inr e5)) k27.2 e6
        refine ⟨o2, fun h29 k29 => ?_⟩
        obtain ⟨S29, c29, r29⟩ := k29
        have lp := mRes_p o2.1 c29
        have h66 := hp.2.1
        obtain ⟨F1, q, f, p, b1, b2, b3, b4⟩ := c29
        have T9 : mT (vw h29) = mT (vw h2) := (mfr_T F1).trans o5
        have m9 : mL (vw h29) = mT (vw h2) q := by rw [mL_T lp.2.2.1.1, T9, b1]
        have F := kFs_t o7 r29.1
        refine ⟨fun lt => ?_, fun ge => ⟨⟨F.1, F.2.1, F.2.2.1, by have := F.2.2.2; omega⟩, fun z => by omega⟩⟩
        rw [m9]
        refine ⟨fun e41 h42 S42 e42 => ?_, fun n41 h43 k43 => ?_⟩
        · have qlt : q < vw h2 72 54 := mT_lt (by omega)
          have q0 := lp.2.2.1.1
          rw [b1] at q0
          rw [b1, wo q0 (by omega)] at e42
          have fr : ∀ c j, (c = 119 ∨ c = 120 ∨ c = 121 ∨ c = 122 ∨ c = 123 ∨ (c = 72 ∧ (j = 67 ∨ j = 68))) → vw h42 c j = vw h29 c j := fun c j z => by rw [e42, up_fr (by omega) c j z, up_fr (by omega) c j z]
          have e64 : vw h42 72 64 = q + 1 := by rw [e42, up_s]
          have F2 := kFs_t F (kFs_i (s := -1) fr (by omega))
          refine ⟨⟨F2.1, F2.2.1, F2.2.2.1, by have := F2.2.2.2; omega⟩, fun _ => ?_⟩
          obtain ⟨q', L, d, a1, a2, a3⟩ := r29.2 lt
          obtain rfl : q' = q := by omega
          rw [o5, o4, o3] at d
          rw [o8] at a2
          rw [o8, kFs_67 o7] at a3
          exact ⟨q' + 1, L, ko_br e5 o1 d e41, e64, (fr 72 68 (by omega)).trans a2, cAt_k L _ (fun j _ _ => ⟨fr 122 j (by omega), fr 123 j (by omega)⟩) a3⟩
        · rcases k43.2 with ⟨w, -⟩ | ⟨-, w⟩
          · omega
          · have q0 := lp.2.2.1.1
            refine ⟨?_, fun u => by rw [w, up_s] at u; omega⟩
            have F2 := kFs_t F (kFs_i (s := 0) (V := vw h29) (V' := vw h43) (fun c j z => by rw [w]; exact up_fr (by omega) c j z) (by rw [w, up_j (by decide)]; omega))
            exact ⟨F2.1, F2.2.1, F2.2.2.1, by have := F2.2.2.2; omega⟩
    · obtain ⟨-, rfl, k60, v60⟩ := k60
      have nn : nmB (mT (vw h60) (vw h60 72 64)) = true := by
        rw [← hm]
        rcases k2 with ⟨z, -⟩ | ⟨-, z⟩
        · exact z
        · omega
      have lt : vw h60 72 64 < vw h60 72 54 := mT_lt (fun w => by rw [w] at nn; cases nn)
      obtain ⟨lF, l68, lc, l64, l65⟩ := lay_F KV (by omega) k61.2
      rw [l64, wo h0.1 (by omega)] at e65
      have fr : ∀ c j, (c = 119 ∨ c = 120 ∨ c = 121 ∨ c = 122 ∨ c = 123 ∨ (c = 72 ∧ (j = 67 ∨ j = 68))) → vw h65 c j = vw h61 c j := fun c j z => by rw [e65]; exact up_fr (by omega) c j z
      have e64 : vw h65 72 64 = vw h60 72 64 + 1 := by rw [e65, up_s]
      refine ⟨kFs_s (by omega) (kFs_t lF (kFs_i (s := -1) fr (by omega))), fun _ => ⟨_, _, ko_nm nn, e64, ?_, ?_⟩⟩
      · rw [fr 72 68 (by omega), l68]
        rfl
      · rw [← hm, ← v60]
        exact ⟨⟨(fr 122 _ (by omega)).trans lc.1, (fr 123 _ (by omega)).trans lc.2⟩, trivial⟩
  · rintro v h' ⟨⟨ev, p1, p2⟩, ⟨_, p3⟩⟩
    exact ⟨ev, p1, p2, p3⟩
theorem mk_gram (X : aX) : ∀ n : Nat, mv256 n X ∧ (mv257 n X ∧ mw257 n X) ∧ (mv258 n X ∧ mw258 n X) ∧ mv259 n X ∧ (mv260 n X ∧ mw260 n X) ∧ mv261 n X ∧ mw261 n X := by
  intro n
  induction n with
  | zero => exact ⟨fun _ _ => pt_z, ⟨fun _ _ => pt_z, fun _ _ _ => pt_z⟩, ⟨fun _ _ => pt_z, fun _ _ _ => pt_z⟩, fun _ _ => pt_z, ⟨fun _ _ => pt_z, fun _ _ _ => pt_z⟩, fun _ _ => pt_z, fun _ _ _ => pt_z⟩
  | succ n ih =>
    obtain ⟨i1, ⟨i2, i3⟩, ⟨i4, i5⟩, i6, ⟨i7, i8⟩, i9, i10⟩ := ih
    exact ⟨ek_256 (m_gram X (n + 1)).1 i1 i9, ⟨ek_257 i1 i3, fk_257 i1 i3⟩, ⟨ek_258 i2 i5, fk_258 i2 i5⟩, ek_259 i4, ⟨ek_260 i6 i8, fk_260 i6 i8⟩, ek_261 i7 i10, fk_261 i7 i10⟩
end
section
-- ===== what a text says =====
-- a code leaves one number more
theorem opB_n {t : Nat} {c : Int} (h : opB t c = true) : c ≠ 1 ∧ c ≠ 2 ∧ c ≠ 3 ∧ c ≠ 4 := by
  have k : ∀ c : Int, (c = 1 ∨ c = 2 ∨ c = 3 ∨ c = 4) → opB t c = false := fun c hc => by
    unfold opB
    split <;> (rcases hc with rfl | rfl | rfl | rfl <;> rfl)
  refine ⟨fun e => ?_, fun e => ?_, fun e => ?_, fun e => ?_⟩ <;> (rw [k c (by omega)] at h; cases h)
abbrev oneC (N : Int → Int) (L : List (Int × Int)) : Prop := ∀ st, ∃ r, run N L st = r :: st
abbrev onC (N : Int → Int) (L : List (Int × Int)) : Prop := ∀ a st, ∃ r, run N L (a :: st) = r :: st
abbrev tagA (t : Nat) : Prop := t = 0 ∨ t = 1 ∨ t = 3 ∨ t = 5 ∨ t = 6 ∨ t = 8
abbrev tagB (t : Nat) : Prop := t = 2 ∨ t = 4 ∨ t = 7 ∨ t = 9 ∨ t = 12
theorem cdF_r (T N : Int → Int) : ∀ (k t : Nat) (o p q : Int) (L : List (Int × Int)), cdF T k t o p = some (q, L) → (tagA t → oneC N L) ∧ (tagB t → onC N L)
  | 0, _, _, _, _, _, e => by cases e
  | k + 1, t, o, p, q, L, e => by
    have ih := cdF_r T N k
    have sq : ∀ {t1 t2 : Nat}, tagA t1 → tagB t2 → cdT (cdF T k t1 o p) [] (fun q => cdF T k t2 o q) = some (q, L) → oneC N L := fun h1 h2 e st => by
      obtain ⟨q1, L1, L2, a, b, rfl⟩ := cdT_x e
      obtain ⟨r1, e1⟩ := (ih _ _ _ _ _ a).1 h1 st
      obtain ⟨r2, e2⟩ := (ih _ _ _ _ _ b).2 h2 r1 st
      exact ⟨r2, by rw [List.nil_append, run_a, e1, e2]⟩
    have stp : ∀ {L1 L2 : List (Int × Int)} {t1 : Nat}, opB t1 (T p) = true → oneC N L1 → onC N L2 → onC N (L1 ++ ([(T p, 0)] ++ L2)) := by
      intro L1 L2 t1 z h1 h2 a st
      obtain ⟨r1, e1⟩ := h1 (a :: st)
      obtain ⟨r2, e2⟩ := h2 (bo (T p) a r1) st
      refine ⟨r2, ?_⟩
      rw [run_a, e1]
      show run N ((T p, 0) :: L2) (r1 :: a :: st) = _
      rw [run_c, stp_b (opB_n z)]
      exact e2
    have lp : ∀ {t1 : Nat}, tagA t1 → tagB t → (bif opB t (T p) then cdT (cdF T k t1 o (p + 1)) [(T p, 0)] (fun q => cdF T k t o q) else some (p, [])) = some (q, L) → onC N L := fun h1 h2 e a st => by
      cases z : opB t (T p) with
      | false =>
        rw [z] at e
        cases e
        exact ⟨a, rfl⟩
      | true =>
        rw [z] at e
        obtain ⟨q1, L1, L2, x, y, rfl⟩ := cdT_x e
        exact stp z ((ih _ _ _ _ _ x).1 h1) ((ih _ _ _ _ _ y).2 h2) a st
    have nA : ∀ {t : Nat}, (t = 0 ∨ t = 1 ∨ t = 3 ∨ t = 5 ∨ t = 6 ∨ t = 8 → False) → tagA t → oneC N L := fun h z => absurd z h
    have nB : ∀ {t : Nat}, (t = 2 ∨ t = 4 ∨ t = 7 ∨ t = 9 ∨ t = 12 → False) → tagB t → onC N L := fun h z => absurd z h
    match t with
    | 0 =>
      refine ⟨fun _ => ?_, nB (by decide)⟩
      rw [ko_s] at e
      cases z1 : nmB (T p) with
      | true =>
        rw [z1] at e
        cases e
        exact fun st => ⟨N (nmV (T p)), rfl⟩
      | false =>
        rw [z1] at e
        have un : ∀ w : Int, (w = 3 ∨ w = 4) → (bif o == 8 then none else cdT (cdF T k 0 (o + 1) (p + 1)) [(w, 0)] (fun q => some (q, []))) = some (q, L) → oneC N L := fun w hw e => by
          cases z : (o == 8) with
          | true => rw [z] at e; cases e
          | false =>
            rw [z] at e
            have e : cdT (cdF T k 0 (o + 1) (p + 1)) [(w, 0)] (fun q => some (q, [])) = some (q, L) := e
            obtain ⟨q1, L1, L2, a, b, rfl⟩ := cdT_x e
            cases b
            intro st
            obtain ⟨r1, e1⟩ := (ih _ _ _ _ _ a).1 (by decide) st
            rcases hw with rfl | rfl
            · exact ⟨bI (r1 = 0), by rw [run_a, e1]; rfl⟩
            · exact ⟨w32 (-r1), by rw [run_a, e1]; rfl⟩
        cases z2 : (T p == 33) with
        | true => rw [z2] at e; exact un 3 (Or.inl rfl) e
        | false =>
          rw [z2] at e
          cases z3 : (T p == 45) with
          | true => rw [z3] at e; exact un 4 (Or.inr rfl) e
          | false =>
            rw [z3] at e
            cases z4 : (T p == 40) with
            | true =>
              rw [z4] at e
              cases z : (o == 8) with
              | true => rw [z] at e; cases e
              | false =>
                rw [z] at e
                obtain ⟨q1, L1, L2, a, b, rfl⟩ := cdT_x e
                cases z5 : (T q1 == 41) with
                | false => simp only [z5, cond_false] at b; cases b
                | true =>
                  simp only [z5, cond_true] at b
                  cases b
                  rw [List.nil_append, List.append_nil]
                  exact (ih _ _ _ _ _ a).1 (by decide)
            | false =>
              rw [z4] at e
              cases z6 : (dgEnd T 6 p == p || isD (T (dgEnd T 6 p))) with
              | true => rw [z6] at e; cases e
              | false =>
                rw [z6] at e
                cases e
                exact fun st => ⟨dgVal T 6 p 0, rfl⟩
    | 1 => exact ⟨fun _ => sq (by decide) (by decide) e, nB (by decide)⟩
    | 2 => exact ⟨nA (by decide), fun _ => lp (by decide) (by decide) e⟩
    | 3 => exact ⟨fun _ => sq (by decide) (by decide) e, nB (by decide)⟩
    | 4 => exact ⟨nA (by decide), fun _ => lp (by decide) (by decide) e⟩
    | 5 => exact ⟨fun _ => sq (by decide) (by decide) e, nB (by decide)⟩
    | 6 => exact ⟨fun _ => sq (by decide) (by decide) e, nB (by decide)⟩
    | 7 => exact ⟨nA (by decide), fun _ => lp (by decide) (by decide) e⟩
    | 8 => exact ⟨fun _ => sq (by decide) (by decide) e, nB (by decide)⟩
    | 9 => exact ⟨nA (by decide), fun _ => lp (by decide) (by decide) e⟩
    | 10 => cases e
    | 11 => cases e
    | 12 =>
      refine ⟨nA (by decide), fun _ => ?_⟩
      rw [kch12] at e
      cases z : opB 12 (T p) with
      | false =>
        rw [z] at e
        cases e
        exact fun a st => ⟨a, rfl⟩
      | true =>
        rw [z] at e
        have e : cdT (cdF T k 3 o (p + 1)) [(T p, 0)] (fun q => some (q, [])) = some (q, L) := e
        obtain ⟨q1, L1, L2, a, b, rfl⟩ := cdT_x e
        cases b
        exact stp z ((ih _ _ _ _ _ a).1 (by decide)) (fun a st => ⟨a, rfl⟩)
    | _ + 13 => cases e
theorem cd_r {T : Int → Int} {o p q : Int} {L : List (Int × Int)} (d : Cd T 8 o p q L) (N : Int → Int) : oneC N L := by
  obtain ⟨k, d⟩ := d
  exact (cdF_r T N k 8 o p q L d).1 (by decide)
theorem cd_ne {T : Int → Int} {o p q : Int} {L : List (Int × Int)} (d : Cd T 8 o p q L) : L ≠ [] := by
  rintro rfl
  obtain ⟨r, e⟩ := cd_r d (fun _ => 0) []
  cases e
-- lines: the test's code (or none) and the code
abbrev cLs : Type := List (List (Int × Int) × List (Int × Int))
def ln1 (T : Int → Int) (p q : Int) (l : List (Int × Int) × List (Int × Int)) : Prop := (l.1 = [] ∧ Cd T 8 0 p q l.2 ∧ T q ≠ 63) ∨ (∃ q1, Cd T 8 0 p q1 l.1 ∧ T q1 = 63 ∧ Cd T 8 0 (q1 + 1) q l.2)
def lnT (T : Int → Int) : Int → cLs → Prop
  | p, [] => T p ≠ 59
  | p, l :: ls => T p = 59 ∧ ∃ q, ln1 T (p + 1) q l ∧ lnT T q ls
def Lns (T : Int → Int) (p : Int) : cLs → Prop
  | [] => False
  | l :: ls => ∃ q, ln1 T p q l ∧ lnT T q ls
noncomputable def evC (N : Int → Int) (L : List (Int × Int)) : Int := (run N L []).headD 0
noncomputable def valL (N : Int → Int) : Int → cLs → Int × Int
  | _, [] => (0, -1)
  | i, (M, L) :: ls => @ite _ (M = [] ∨ evC N M ≠ 0) (Classical.propDecidable _) (evC N L, i) (valL N (i + 1) ls)
theorem valL_y {N : Int → Int} {i : Int} {M L : List (Int × Int)} {ls : cLs} (h : M = [] ∨ evC N M ≠ 0) : valL N i ((M, L) :: ls) = (evC N L, i) := by
  unfold valL
  rw [if_pos h]
theorem valL_n {N : Int → Int} {i : Int} {M L : List (Int × Int)} {ls : cLs} (h : ¬ (M = [] ∨ evC N M ≠ 0)) : valL N i ((M, L) :: ls) = valL N (i + 1) ls := by
  rw [valL, if_neg h]
theorem evC_e {N : Int → Int} {L : List (Int × Int)} {r : Int} (h : ∀ st, run N L st = r :: st) : evC N L = r := by
  unfold evC
  rw [h]
  rfl
theorem ln1_u {T : Int → Int} {p q q' : Int} {l l' : List (Int × Int) × List (Int × Int)} (a : ln1 T p q l) (b : ln1 T p q' l') : q = q' ∧ l = l' := by
  obtain ⟨M, L⟩ := l
  obtain ⟨M', L'⟩ := l'
  rcases a with ⟨a1, a2, a3⟩ | ⟨x, a1, a2, a3⟩ <;> rcases b with ⟨b1, b2, b3⟩ | ⟨y, b1, b2, b3⟩
  · obtain ⟨rfl, e⟩ := cd_u a2 b2
    have a1 : M = [] := a1
    have b1 : M' = [] := b1
    have e : L = L' := e
    exact ⟨rfl, by rw [a1, b1, e]⟩
  · obtain ⟨rfl, -⟩ := cd_u a2 b1
    exact absurd b2 a3
  · obtain ⟨rfl, -⟩ := cd_u a1 b2
    exact absurd a2 b3
  · obtain ⟨rfl, e1⟩ := cd_u a1 b1
    obtain ⟨rfl, e2⟩ := cd_u a3 b3
    have e1 : M = M' := e1
    have e2 : L = L' := e2
    exact ⟨rfl, by rw [e1, e2]⟩
theorem lnT_u {T : Int → Int} : ∀ (ls ls' : cLs) (p : Int), lnT T p ls → lnT T p ls' → ls = ls'
  | [], [], _, _, _ => rfl
  | [], _ :: _, _, a, b => absurd b.1 a
  | _ :: _, [], _, a, b => absurd a.1 b
  | l :: ls, l' :: ls', p, a, b => by
    obtain ⟨-, q, a1, a2⟩ := a
    obtain ⟨-, q', b1, b2⟩ := b
    obtain ⟨rfl, rfl⟩ := ln1_u a1 b1
    rw [lnT_u ls ls' q a2 b2]
theorem Lns_u {T : Int → Int} {p : Int} : ∀ {ls ls' : cLs}, Lns T p ls → Lns T p ls' → ls = ls'
  | [], _, a, _ => a.elim
  | _ :: _, [], _, b => b.elim
  | l :: ls, l' :: ls', ⟨q, a1, a2⟩, ⟨q', b1, b2⟩ => by
    obtain ⟨rfl, rfl⟩ := ln1_u a1 b1
    rw [lnT_u ls ls' q a2 b2]
-- what a text says: of its bytes and the names
noncomputable def tSay (T N : Int → Int) : Int × Int := @dite _ (∃ ls, Lns T 0 ls) (Classical.propDecidable _) (fun h => valL N 0 (Classical.choose h)) (fun _ => (0, -1))
theorem tSay_e {T N : Int → Int} {ls : cLs} (h : Lns T 0 ls) : tSay T N = valL N 0 ls := by
  unfold tSay
  have e : ∃ ls, Lns T 0 ls := ⟨ls, h⟩
  rw [dif_pos e, Lns_u (Classical.choose_spec e) h]
end
section
-- ===== what a text says =====
theorem d121_0 {n : Nat} {X : aX} {h : aH} {P : Int → aH → Prop} {x1 : Int32} {a1 : Int} {q2 : Nat} (S : wS h) (z1 : x1.toInt = a1) (H : ∀ (h_1 : aH), (wS h_1 ∧ vw h_1 = op123 (vw h) a1 q2) → (∀ (w3 : Int32) (u4_ : Option Value) (u5_ : Option Value), w3.toInt = 0 → Pt n X zM121 8 [some (.ref 33), some (.int x1), some (.ref q2), some (.int w3), u4_, u5_] [] h_1 (qI P))) : Pt (n + 1) X zM121 0 [some (.ref 33), some (.int x1), some (.ref q2), none, none, none] [] h (qI P) := by
  refine pt_1 (fun n d => r_aloadn gx121_0 rfl) ?_
  refine pt_d (pt_1 (fun n d => r_iloadn gx121_1 rfl) ?_)
  refine pt_d (pt_1 (fun n d => r_aloadn gx121_2 rfl) ?_)
  refine pt_d (pt_virt (as := [.int x1, .ref q2]) (r := []) gx121_3 rfl (show zmt[123]? = some zM123 from rfl) rfl rfl rfl rfl (c_123 S z1) (kqN (fun h_1 P1 => ?_)))
  have S1 := P1.1
  have H := H h_1 P1
  show Pt _ _ _ 6 _ [] _ _
  refine pt_d (pt_iconst gx121_6 (fun v2 h2 => ?_))
  refine pt_d (pt_1 (fun n d => r_istoren (L' := [some (.ref 33), some (.int x1), some (.ref q2), some (.int v2), none, none]) gx121_7 rfl rfl) ?_)
  exact H v2 _ _ h2
theorem d121_8 {n : Nat} {X : aX} {h : aH} {P : Int → aH → Prop} {x1 x3 : Int32} {a1 a3 : Int} {u4 u5 : Option Value} {q2 : Nat} (S : wS h) (z1 : x1.toInt = a1) (z3 : x3.toInt = a3) (H : ((160 ≤ a3 → P 0 h) ∧ (a3 < 160 → ((cpre (vw h) 0 ∧ vw h 33 13 = ((43 : Nat) : Int)) ∧ ∀ (y5 : Int) (h_5 : aH), (wS h_5 ∧ cRes 8 0 (vw h) (vw h_5) ∧ vRes 8 0 (vw h) y5 (vw h_5)) → ((tIn (vw h_5) ∧ (0 : Int) ≤ 63 ∧ (63 : Int) ≤ 127) ∧ ∀ (y8 : Int) (h_8 : aH), (wS h_8 ∧ R125 (vw h_5) 63 y8 (vw h_8)) → ((y8 = 0 → ∀ h_11 : aH, wS h_11 → vw h_11 = up (vw h_8) 33 14 a3 → P y5 h_11) ∧ (y8 ≠ 0 → ((y5 = 0 → ((cpre (vw h_8) 0 ∧ vw h_8 33 13 = ((43 : Nat) : Int)) ∧ ∀ (y15 : Int) (h_15 : aH), (wS h_15 ∧ cRes 8 0 (vw h_8) (vw h_15) ∧ vRes 8 0 (vw h_8) y15 (vw h_15)) → ((tIn (vw h_15) ∧ (0 : Int) ≤ 59 ∧ (59 : Int) ≤ 127) ∧ ∀ (y18 : Int) (h_18 : aH), (wS h_18 ∧ R125 (vw h_15) 59 y18 (vw h_18)) → ((y18 ≠ 0 → (∀ (w3 : Int32) (u4_ : Option Value) (u5_ : Option Value), w3.toInt = w32 (a3 + 1) → Pt n X zM121 8 [some (.ref 33), some (.int x1), some (.ref q2), some (.int w3), u4_, u5_] [] h_18 (qI P))) ∧ (y18 = 0 → P 0 h_18))))) ∧ (y5 ≠ 0 → ((cpre (vw h_8) 0 ∧ vw h_8 33 13 = ((43 : Nat) : Int)) ∧ ∀ (y24 : Int) (h_24 : aH), (wS h_24 ∧ cRes 8 0 (vw h_8) (vw h_24) ∧ vRes 8 0 (vw h_8) y24 (vw h_24)) → ∀ h_26 : aH, wS h_26 → vw h_26 = up (vw h_24) 33 14 a3 → P y24 h_26)))))))))) : Pt (n + 1) X zM121 8 [some (.ref 33), some (.int x1), some (.ref q2), some (.int x3), u4, u5] [] h (qI P) := by
  refine pt_1 (fun n d => r_iloadn gx121_8 rfl) ?_
  refine pt_d (pt_sipush gx121_9 (fun v1 h1 => ?_))
  refine pt_d (pt_icmp_ge gx121_12 z3 h1 (fun e2 => ?_) (fun e2 => ?_))
  · have H := H.1 e2
    refine pt_d (pt_iconst gx121_83 (fun v3 h3 => ?_))
    exact pt_d (pt_iret gx121_84 ⟨_, rfl, by rw [h3]; exact H⟩)
  · have H := H.2 e2
    refine pt_d (pt_1 (fun n d => r_aloadn gx121_15 rfl) ?_)
    refine pt_d (pt_iconst gx121_16 (fun v4 h4 => ?_))
    obtain ⟨pr5, H⟩ := H
    refine pt_d (pt_virt (as := [.int v4]) (r := []) gx121_17 rfl (show zmt[128]? = some zM128 from rfl) rfl rfl rfl rfl ((v_gram X _).2.2.2.2.2.1 S h4 pr5) (kqI (fun v5 y5 h_5 h5 P5 => ?_)))
    have S5 := P5.1
    have H := H y5 h_5 P5
    show Pt _ _ _ 20 _ [.int v5] _ _
    refine pt_d (pt_1 (fun n d => r_istore (L' := [some (.ref 33), some (.int x1), some (.ref q2), some (.int x3), some (.int v5), u5]) gx121_20 rfl rfl) ?_)
    refine pt_d (pt_iconst gx121_22 (fun v6 h6 => ?_))
    refine pt_d (pt_1 (fun n d => r_istore (L' := [some (.ref 33), some (.int x1), some (.ref q2), some (.int x3), some (.int v5), some (.int v6)]) gx121_23 rfl rfl) ?_)
    refine pt_d (pt_1 (fun n d => r_aloadn gx121_25 rfl) ?_)
    refine pt_d (pt_bipush gx121_26 (fun v7 h7 => ?_))
    obtain ⟨pr8, H⟩ := H
    refine pt_d (pt_virt (as := [.int v7]) (r := []) gx121_28 rfl (show zmt[125]? = some zM125 from rfl) rfl rfl rfl rfl (c_125 S5 h7 pr8) (kqI (fun v8 y8 h_8 h8 P8 => ?_)))
    have S8 := P8.1
    have H := H y8 h_8 P8
    show Pt _ _ _ 31 _ [.int v8] _ _
    refine pt_d (pt_if_eq gx121_31 h8 (fun e9 => ?_) (fun e9 => ?_))
    · have H := H.1 e9
      refine pt_d (pt_1 (fun n d => r_iload gx121_53 rfl) ?_)
      refine pt_d (pt_if_eq gx121_55 h6 (fun e10 => absurd e10 (by decide)) (fun e10 => ?_))
      refine pt_d (pt_1 (fun n d => r_aloadn gx121_58 rfl) ?_)
      refine pt_d (pt_1 (fun n d => r_iloadn gx121_59 rfl) ?_)
      refine pt_d (pt_putI (B := 14) gx121_60 S8 z3 (fun h_11 S11 e11 => ?_))
      refine pt_d (pt_1 (fun n d => r_iload gx121_63 rfl) ?_)
      have H := H h_11 S11 (by rw [e11])
      exact pt_d (pt_iret gx121_65 ⟨_, rfl, by rw [h5]; exact H⟩)
    · have H := H.2 e9
      refine pt_d (pt_1 (fun n d => r_iload gx121_34 rfl) ?_)
      refine pt_d (pt_if_eq gx121_36 h5 (fun e12 => ?_) (fun e12 => ?_))
      · have H := H.1 e12
        refine pt_d (pt_iconst gx121_43 (fun v13 h13 => ?_))
        refine pt_d (pt_1 (fun n d => r_istore (L' := [some (.ref 33), some (.int x1), some (.ref q2), some (.int x3), some (.int v5), some (.int v13)]) gx121_44 rfl rfl) ?_)
        refine pt_d (pt_1 (fun n d => r_aloadn gx121_46 rfl) ?_)
        refine pt_d (pt_iconst gx121_47 (fun v14 h14 => ?_))
        obtain ⟨pr15, H⟩ := H
        refine pt_d (pt_virt (as := [.int v14]) (r := []) gx121_48 rfl (show zmt[128]? = some zM128 from rfl) rfl rfl rfl rfl ((v_gram X _).2.2.2.2.2.1 S8 h14 pr15) (kqI (fun v15 y15 h_15 h15 P15 => ?_)))
        have S15 := P15.1
        have H := H y15 h_15 P15
        show Pt _ _ _ 51 _ [.int v15] _ _
        refine pt_d (pt_1 (fun n d => r_istore (L' := [some (.ref 33), some (.int x1), some (.ref q2), some (.int x3), some (.int v15), some (.int v13)]) gx121_51 rfl rfl) ?_)
        refine pt_d (pt_1 (fun n d => r_iload gx121_53 rfl) ?_)
        refine pt_d (pt_if_eq gx121_55 h13 (fun e16 => ?_) (fun e16 => absurd e16 (by decide)))
        refine pt_d (pt_1 (fun n d => r_aloadn gx121_66 rfl) ?_)
        refine pt_d (pt_bipush gx121_67 (fun v17 h17 => ?_))
        obtain ⟨pr18, H⟩ := H
        refine pt_d (pt_virt (as := [.int v17]) (r := []) gx121_69 rfl (show zmt[125]? = some zM125 from rfl) rfl rfl rfl rfl (c_125 S15 h17 pr18) (kqI (fun v18 y18 h_18 h18 P18 => ?_)))
        have S18 := P18.1
        have H := H y18 h_18 P18
        show Pt _ _ _ 72 _ [.int v18] _ _
        refine pt_d (pt_if_ne gx121_72 h18 (fun e19 => ?_) (fun e19 => ?_))
        · have H := H.1 e19
          refine pt_d (pt_iinc (c := 1) gx121_77 rfl z3 (fun v20 h20 => ?_))
          show Pt _ _ _ _ [some (.ref 33), some (.int x1), some (.ref q2), some (.int v20), some (.int v15), some (.int v13)] [] _ _
          refine pt_d (pt_1 (fun n d => r_goto gx121_80) ?_)
          exact H v20 _ _ h20
        · have H := H.2 e19
          refine pt_d (pt_iconst gx121_75 (fun v21 h21 => ?_))
          exact pt_d (pt_iret gx121_76 ⟨_, rfl, by rw [h21]; exact H⟩)
      · have H := H.2 e12
        refine pt_d (pt_iconst gx121_39 (fun v22 h22 => ?_))
        refine pt_d (pt_1 (fun n d => r_goto gx121_40) ?_)
        refine pt_d (pt_1 (fun n d => r_istore (L' := [some (.ref 33), some (.int x1), some (.ref q2), some (.int x3), some (.int v5), some (.int v22)]) gx121_44 rfl rfl) ?_)
        refine pt_d (pt_1 (fun n d => r_aloadn gx121_46 rfl) ?_)
        refine pt_d (pt_iconst gx121_47 (fun v23 h23 => ?_))
        obtain ⟨pr24, H⟩ := H
        refine pt_d (pt_virt (as := [.int v23]) (r := []) gx121_48 rfl (show zmt[128]? = some zM128 from rfl) rfl rfl rfl rfl ((v_gram X _).2.2.2.2.2.1 S8 h23 pr24) (kqI (fun v24 y24 h_24 h24 P24 => ?_)))
        have S24 := P24.1
        have H := H y24 h_24 P24
        show Pt _ _ _ 51 _ [.int v24] _ _
        refine pt_d (pt_1 (fun n d => r_istore (L' := [some (.ref 33), some (.int x1), some (.ref q2), some (.int x3), some (.int v24), some (.int v22)]) gx121_51 rfl rfl) ?_)
        refine pt_d (pt_1 (fun n d => r_iload gx121_53 rfl) ?_)
        refine pt_d (pt_if_eq gx121_55 h22 (fun e25 => absurd e25 (by decide)) (fun e25 => ?_))
        refine pt_d (pt_1 (fun n d => r_aloadn gx121_58 rfl) ?_)
        refine pt_d (pt_1 (fun n d => r_iloadn gx121_59 rfl) ?_)
        refine pt_d (pt_putI (B := 14) gx121_60 S24 z3 (fun h_26 S26 e26 => ?_))
        refine pt_d (pt_1 (fun n d => r_iload gx121_63 rfl) ?_)
        have H := H h_26 S26 (by rw [e26])
        exact pt_d (pt_iret gx121_65 ⟨_, rfl, by rw [h24]; exact H⟩)
def fr3 (V V' : vS) : Prop := ∀ c j, (c ≠ 33 ∨ (j ≠ 11 ∧ j ≠ 12 ∧ j ≠ 14)) → V' c j = V c j
theorem fr3_r (V : vS) : fr3 V V := fun _ _ _ => rfl
theorem fr3_u {V V1 V' : vS} {j v : Int} (a : fr3 V V1) (e : V' = up V1 33 j v) (h : j = 11 ∨ j = 12 ∨ j = 14) : fr3 V V' := fun c i z => by
  rw [e]
  by_cases w : c = 33
  · subst w
    have : i ≠ j := by omega
    rw [up_j this]
    exact a 33 i z
  · rw [up_c w]
    exact a c i z
theorem fr3_N {V V' : vS} (a : fr3 V V') : (fun j => V' 43 j) = fun j => V 43 j := funext fun j => a 43 j (Or.inl (by decide))
theorem l_121 {X : aX} {x1 : Int32} : ∀ (n : Nat) (h : aH) (x3 : Int32) (u4 u5 : Option Value) (i : Int) (ls : cLs), wS h → x3.toInt = i → 0 ≤ i → i + (ls.length : Int) ≤ 160 → tIn (vw h) → vw h 33 12 = -1 → vw h 33 13 = ((43 : Nat) : Int) → vw h 33 14 = -1 → Lns (cTx (vw h)) (vw h 33 11) ls → Pt n X zM121 8 [some (.ref 33), some (.int x1), some (.ref 43), some (.int x3), u4, u5] [] h (qI (fun y h' => wS h' ∧ y = (valL (fun j => vw h 43 j) i ls).1 ∧ vw h' 33 14 = (valL (fun j => vw h 43 j) i ls).2 ∧ fr3 (vw h) (vw h'))) := by
  intro n
  induction n with
  | zero => exact fun _ _ _ _ _ _ _ _ _ _ _ _ _ _ _ => pt_z
  | succ n ih =>
    intro h x3 u4 u5 i ls S h3 i0 il I e12 e13 e14 D
    cases ls with
    | nil => exact D.elim
    | cons l ls =>
      obtain ⟨M, L⟩ := l
      obtain ⟨q, d, t⟩ := D
      have il : i + ((ls.length + 1 : Nat) : Int) ≤ 160 := il
      have c0 : cpre (vw h) 0 := ⟨I, e12, by decide, by decide⟩
      refine d121_8 S rfl h3 ⟨fun ge => by omega, fun lt => ⟨⟨c0, e13⟩, fun y5 h5 k5 => ?_⟩⟩
      obtain ⟨S5, c5, v5⟩ := k5
      obtain ⟨I5, -⟩ := cR_i I c5
      refine ⟨⟨I5, by decide, by decide⟩, fun y8 h8 k8 => ?_⟩
      obtain ⟨S8, k8⟩ := k8
      rcases d with ⟨m0, d, t63⟩ | ⟨q1, d1, t63, d2⟩
      · -- no test
        have m0 : M = [] := m0
        obtain ⟨e5, r5⟩ := v5 q L d
        obtain ⟨s1, s2, s3, s4⟩ := v_st e5
        refine ⟨fun z => ?_, fun z => ?_⟩
        · obtain ⟨v8, -⟩ := tk_0 k8 z
          intro h11 S11 e11
          rw [valL_y (Or.inl m0)]
          refine ⟨S11, (evC_e r5).symm, by rw [e11, up_s], ?_⟩
          rw [v8] at e11
          exact fr3_u (fr3_u (fr3_r _) e5 (Or.inl rfl)) e11 (Or.inr (Or.inr rfl))
        · obtain ⟨⟨-, z2, -⟩, -⟩ := tk_1 k8 z
          rw [s1, s2] at z2
          exact absurd z2 t63
      · -- a test
        have m0 : M ≠ [] := cd_ne d1
        obtain ⟨e5, r5⟩ := v5 q1 M d1
        obtain ⟨s1, s2, s3, s4⟩ := v_st e5
        have ev := evC_e r5
        refine ⟨fun z => ?_, fun z => ?_⟩
        · have n63 := (tk_0 k8 z).2 (s3.trans e12)
          rw [s1, s2] at n63
          exact absurd t63 n63
        · obtain ⟨-, e8⟩ := tk_1 k8 z
          obtain ⟨I8, f12, f11⟩ := tk_i I5 k8 z
          have F8 := fr3_u (fr3_u (fr3_r _) e5 (Or.inl rfl)) e8 (Or.inl rfl)
          have f13 : vw h8 33 13 = ((43 : Nat) : Int) := (F8 33 13 (Or.inr (by decide))).trans e13
          obtain ⟨u1, u2, u3, u4'⟩ := v_st e8
          have d2' : Cd (cTx (vw h8)) 8 0 (vw h8 33 11) q L := by rw [u1, s1, u2, s2]; exact d2
          have pre : cpre (vw h8) 0 ∧ vw h8 33 13 = ((43 : Nat) : Int) := ⟨⟨I8, f12, by decide, by decide⟩, f13⟩
          refine ⟨fun y0 => ⟨pre, fun y15 h15 k15 => ?_⟩, fun y0 => ⟨pre, fun y24 h24 k24 h26 S26 e26 => ?_⟩⟩
          · obtain ⟨S15, c15, v15⟩ := k15
            obtain ⟨I15, -⟩ := cR_i I8 c15
            obtain ⟨e15, -⟩ := v15 q L d2'
            obtain ⟨w1, w2, w3, w4⟩ := v_st e15
            have F15 := fr3_u F8 e15 (Or.inl rfl)
            have g14 : vw h15 33 14 = -1 := by rw [e15, up_j (by decide), e8, up_j (by decide), e5, up_j (by decide)]; exact e14
            have vn : valL (fun j => vw h 43 j) i ((M, L) :: ls) = valL (fun j => vw h 43 j) (i + 1) ls := valL_n (fun w => w.elim m0 (fun w => w (ev.trans y0)))
            refine ⟨⟨I15, by decide, by decide⟩, fun y18 h18 k18 => ?_⟩
            obtain ⟨S18, k18⟩ := k18
            refine ⟨fun z18 w3' u4_ u5_ g3 => ?_, fun z18 => ?_⟩
            · obtain ⟨⟨-, t59, -⟩, e18⟩ := tk_1 k18 z18
              rw [w1, u1, s1, w2] at t59
              cases ls with
              | nil => exact absurd t59 t
              | cons l2 ls =>
                obtain ⟨-, q2, t1, t2⟩ := t
                obtain ⟨I18, g12, g11⟩ := tk_i I15 k18 z18
                obtain ⟨b1, b2, b3, b4⟩ := v_st e18
                have F18 := fr3_u F15 e18 (Or.inl rfl)
                replace g3 := w_1 g3 (by omega) (by omega)
                have il : i + ((ls.length + 1 + 1 : Nat) : Int) ≤ 160 := il
                refine pt_q (ih h18 w3' u4_ u5_ (i + 1) (l2 :: ls) S18 g3 (by omega) (by show i + 1 + ((ls.length + 1 : Nat) : Int) ≤ 160; omega) I18 g12 ((F18 33 13 (Or.inr (by decide))).trans e13) (by rw [e18, up_j (by decide)]; exact g14) ⟨q2, by rw [b1, w1, u1, s1, b2, w2]; exact t1, by rw [b1, w1, u1, s1]; exact t2⟩) ?_
                rintro v h' ⟨x, ex, p1, p2, p3, p4⟩
                rw [fr3_N F18] at p2 p3
                rw [vn]
                exact ⟨x, ex, p1, p2, p3, fun c j hc => (p4 c j hc).trans (F18 c j hc)⟩
            · obtain ⟨v18, n59⟩ := tk_0 k18 z18
              have n59 := n59 (w3.trans f12)
              rw [w1, u1, s1, w2] at n59
              cases ls with
              | nil =>
                rw [vn]
                refine ⟨S18, rfl, ?_, ?_⟩
                · rw [v18]
                  exact g14
                · rw [v18]
                  exact F15
              | cons l2 ls => exact absurd t.1 n59
          · obtain ⟨S24, c24, v24⟩ := k24
            obtain ⟨e24, r24⟩ := v24 q L d2'
            have F24 := fr3_u F8 e24 (Or.inl rfl)
            rw [fr3_N F8] at r24
            rw [valL_y (Or.inr (by rw [ev]; exact y0))]
            exact ⟨S26, (evC_e r24).symm, by rw [e26, up_s], fr3_u F24 e26 (Or.inr (Or.inr rfl))⟩
def tOK (V : vS) (t : Int) : Prop := pre122 V t ∧ ∃ ls, Lns (oT V t) 0 ls ∧ (ls.length : Int) ≤ 160
def R121 (V : vS) (t y : Int) (V' : vS) : Prop := y = (tSay (oT V t) (fun j => V 43 j)).1 ∧ V' 33 14 = (tSay (oT V t) (fun j => V 43 j)).2 ∧ ∀ c j, (c ≠ 33 ∨ (j < 9 ∨ 14 < j)) → V' c j = V c j
theorem c_121 {n : Nat} {X : aX} {h : aH} {x1 : Int32} {a1 : Int} (S : wS h) (z1 : x1.toInt = a1) (hp : tOK (vw h) a1) : Pt n X zM121 0 [some (.ref 33), some (.int x1), some (.ref 43), none, none, none] [] h (qI (fun y h' => wS h' ∧ R121 (vw h) a1 y (vw h'))) := by
  obtain ⟨hp, ls, D, len⟩ := hp
  obtain ⟨o1, o2, o3, o4, o5, o6⟩ := op_T (q := ((43 : Nat) : Int)) hp
  refine pt_d (d121_0 S z1 (fun h2 k2 w3 u4 u5 g3 => ?_))
  have ev : vw h2 = op123 (vw h) a1 ((43 : Nat) : Int) := k2.2
  have e13 : vw h2 33 13 = ((43 : Nat) : Int) := by
    rw [ev]
    unfold op123
    rw [up_j (by decide), up_s]
  have e14 : vw h2 33 14 = -1 := by
    rw [ev]
    unfold op123
    rw [up_s]
  refine pt_q (l_121 n h2 w3 u4 u5 0 ls k2.1 g3 (Int.le_refl _) (by omega) (by rw [ev]; exact o1) (by rw [ev]; exact o5) e13 e14 (by rw [ev, o2, o4]; exact D)) ?_
  rintro y h' ⟨x, ex, p1, p2, p3, p4⟩
  have eN : (fun j => vw h2 43 j) = fun j => vw h 43 j := funext fun j => by rw [ev]; exact o6 43 j (Or.inl (by decide))
  rw [eN] at p2 p3
  refine ⟨x, ex, p1, ?_, ?_, fun c j hc => ?_⟩
  · rw [tSay_e D]
    exact p2
  · rw [tSay_e D]
    exact p3
  · rw [p4 c j (hc.imp id (fun z => by omega)), ev]
    exact o6 c j hc
end

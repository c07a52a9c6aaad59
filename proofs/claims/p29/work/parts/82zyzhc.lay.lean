-- ===== the reference lays a text out =====
abbrev mv256 (n : Nat) (X : aX) : Prop := ∀ {h : aH}, wS h → mpre (vw h) ∧ kpre (vw h) → Pt n X zM256 0 [some (.ref 72), none, none, none] [] h (qN (fun h' => wS h' ∧ mRes 0 (vw h) (vw h') ∧ kRes 0 (vw h) (vw h')))
abbrev mv257 (n : Nat) (X : aX) : Prop := ∀ {h : aH}, wS h → mpre (vw h) ∧ kpre (vw h) → Pt n X zM257 0 [some (.ref 72), none] [] h (qN (fun h' => wS h' ∧ mRes 1 (vw h) (vw h') ∧ kRes 1 (vw h) (vw h')))
abbrev mv258 (n : Nat) (X : aX) : Prop := ∀ {h : aH}, wS h → mpre (vw h) ∧ kpre (vw h) → Pt n X zM258 0 [some (.ref 72), none] [] h (qN (fun h' => wS h' ∧ mRes 3 (vw h) (vw h') ∧ kRes 3 (vw h) (vw h')))
abbrev mv259 (n : Nat) (X : aX) : Prop := ∀ {h : aH}, wS h → mpre (vw h) ∧ kpre (vw h) → Pt n X zM259 0 [some (.ref 72), none] [] h (qN (fun h' => wS h' ∧ mRes 5 (vw h) (vw h') ∧ kRes 5 (vw h) (vw h')))
abbrev mv260 (n : Nat) (X : aX) : Prop := ∀ {h : aH}, wS h → mpre (vw h) ∧ kpre (vw h) → Pt n X zM260 0 [some (.ref 72)] [] h (qN (fun h' => wS h' ∧ mRes 6 (vw h) (vw h') ∧ kRes 6 (vw h) (vw h')))
abbrev mv261 (n : Nat) (X : aX) : Prop := ∀ {h : aH}, wS h → mpre (vw h) ∧ kpre (vw h) → Pt n X zM261 0 [some (.ref 72)] [] h (qN (fun h' => wS h' ∧ mRes 8 (vw h) (vw h') ∧ kRes 8 (vw h) (vw h')))
abbrev mw257 (n : Nat) (X : aX) : Prop := ∀ {h : aH} {u1 : Option Value}, wS h → mlp (vw h) → kpre (vw h) → Pt n X zM257 4 [some (.ref 72), u1] [] h (qN (fun h' => wS h' ∧ mLo 2 (vw h) (vw h') ∧ kLo 2 (vw h) (vw h')))
abbrev mw258 (n : Nat) (X : aX) : Prop := ∀ {h : aH} {u1 : Option Value}, wS h → mlp (vw h) → kpre (vw h) → Pt n X zM258 4 [some (.ref 72), u1] [] h (qN (fun h' => wS h' ∧ mLo 4 (vw h) (vw h') ∧ kLo 4 (vw h) (vw h')))
abbrev mw260 (n : Nat) (X : aX) : Prop := ∀ {h : aH} , wS h → mlp (vw h) → kpre (vw h) → Pt n X zM260 4 [some (.ref 72)] [] h (qN (fun h' => wS h' ∧ mLo 7 (vw h) (vw h') ∧ kLo 7 (vw h) (vw h')))
abbrev mw261 (n : Nat) (X : aX) : Prop := ∀ {h : aH} , wS h → mlp (vw h) → kpre (vw h) → Pt n X zM261 4 [some (.ref 72)] [] h (qN (fun h' => wS h' ∧ mLo 9 (vw h) (vw h') ∧ kLo 9 (vw h) (vw h')))
theorem y257_0 {n : Nat} {X : aX} {h : aH} {P : aH → Prop} (S : wS h) (K256 : mv256 n X) (H : ((mpre (vw h) ∧ kpre (vw h)) ∧ ∀ (h_1 : aH), (wS h_1 ∧ mRes 0 (vw h) (vw h_1) ∧ kRes 0 (vw h) (vw h_1)) → (∀ (u1_ : Option Value), Pt n X zM257 4 [some (.ref 72), u1_] [] h_1 (qN P)))) : Pt (n + 1) X zM257 0 [some (.ref 72), none] [] h (qN P) := by
  refine pt_1 (fun n d => r_aloadn gx257_0 rfl) ?_
  obtain ⟨pr1, H⟩ := H
  refine pt_d (pt_virt (as := []) (r := []) gx257_1 rfl (show zmt[256]? = some zM256 from rfl) rfl rfl rfl rfl (K256 S pr1) (kqN (fun h_1 P1 => ?_)))
  have S1 := P1.1
  have H := H h_1 P1
  show Pt _ _ _ 4 _ [] _ _
  exact H _
theorem y257_4 {n : Nat} {X : aX} {h : aH} {P : aH → Prop} {u1 : Option Value} (S : wS h) (K256 : mv256 n X) (H : ((0 ≤ vw h 72 65 → P h) ∧ (vw h 72 65 < 0 → ((mL (vw h) = 42 → ∀ h_10 : aH, wS h_10 → vw h_10 = up (vw h) 72 64 (w32 ((vw h 72 64) + 1)) → ((mpre (vw h_10) ∧ kpre (vw h_10)) ∧ ∀ (h_11 : aH), (wS h_11 ∧ mRes 0 (vw h_10) (vw h_11) ∧ kRes 0 (vw h_10) (vw h_11)) → ∀ (h_13 : aH), (wS h_13 ∧ RLay (vw h_11) (mL (vw h)) 0 (vw h_13)) → (∀ (u1_ : Option Value), Pt n X zM257 4 [some (.ref 72), u1_] [] h_13 (qN P)))) ∧ (mL (vw h) ≠ 42 → ((mL (vw h) = 47 → ∀ h_21 : aH, wS h_21 → vw h_21 = up (vw h) 72 64 (w32 ((vw h 72 64) + 1)) → ((mpre (vw h_21) ∧ kpre (vw h_21)) ∧ ∀ (h_22 : aH), (wS h_22 ∧ mRes 0 (vw h_21) (vw h_22) ∧ kRes 0 (vw h_21) (vw h_22)) → ∀ (h_24 : aH), (wS h_24 ∧ RLay (vw h_22) (mL (vw h)) 0 (vw h_24)) → (∀ (u1_ : Option Value), Pt n X zM257 4 [some (.ref 72), u1_] [] h_24 (qN P)))) ∧ (mL (vw h) ≠ 47 → ((mL (vw h) ≠ 37 → P h) ∧ (mL (vw h) = 37 → ∀ h_32 : aH, wS h_32 → vw h_32 = up (vw h) 72 64 (w32 ((vw h 72 64) + 1)) → ((mpre (vw h_32) ∧ kpre (vw h_32)) ∧ ∀ (h_33 : aH), (wS h_33 ∧ mRes 0 (vw h_32) (vw h_33) ∧ kRes 0 (vw h_32) (vw h_33)) → ∀ (h_35 : aH), (wS h_35 ∧ RLay (vw h_33) (mL (vw h)) 0 (vw h_35)) → (∀ (u1_ : Option Value), Pt n X zM257 4 [some (.ref 72), u1_] [] h_35 (qN P)))))))))))) : Pt (n + 1) X zM257 4 [some (.ref 72), u1] [] h (qN P) := by
  refine pt_1 (fun n d => r_aloadn gx257_4 rfl) ?_
  refine pt_d (pt_getI (B := 65) gx257_5 S (fun v1 h1 => ?_))
  refine pt_d (pt_if_ge gx257_8 h1 (fun e2 => ?_) (fun e2 => ?_))
  · have H := H.1 e2
    exact pt_d (pt_vret gx257_66 ⟨rfl, H⟩)
  · have H := H.2 e2
    refine pt_d (pt_1 (fun n d => r_aloadn gx257_11 rfl) ?_)
    refine pt_d (pt_virt (as := []) (r := []) gx257_12 rfl (show zmt[251]? = some zM251 from rfl) rfl rfl rfl rfl (c_251 S) (kqP (fun v3 h3 => ?_)))
    show Pt _ _ _ 15 _ [.int v3] _ _
    refine pt_d (pt_bipush gx257_15 (fun v4 h4 => ?_))
    refine pt_d (pt_icmp_eq gx257_17 h3 h4 (fun e5 => ?_) (fun e5 => ?_))
    · have H := H.1 e5
      refine pt_d (pt_1 (fun n d => r_aloadn gx257_38 rfl) ?_)
      refine pt_d (pt_virt (as := []) (r := []) gx257_39 rfl (show zmt[251]? = some zM251 from rfl) rfl rfl rfl rfl (c_251 S) (kqP (fun v6 h6 => ?_)))
      show Pt _ _ _ 42 _ [.int v6] _ _
      refine pt_d (pt_1 (fun n d => r_istoren (L' := [some (.ref 72), some (.int v6)]) gx257_42 rfl rfl) ?_)
      refine pt_d (pt_1 (fun n d => r_aloadn gx257_43 rfl) ?_)
      refine pt_d (pt_1 (fun n d => r_dup gx257_44 rfl) ?_)
      refine pt_d (pt_getI (B := 64) gx257_45 S (fun v7 h7 => ?_))
      refine pt_d (pt_iconst gx257_48 (fun v8 h8 => ?_))
      refine pt_d (pt_iadd gx257_49 h7 h8 (fun v9 h9 => ?_))
      refine pt_d (pt_putI (B := 64) gx257_50 S h9 (fun h_10 S10 e10 => ?_))
      refine pt_d (pt_1 (fun n d => r_aloadn gx257_53 rfl) ?_)
      have H := H h_10 S10 (by rw [e10])
      obtain ⟨pr11, H⟩ := H
      refine pt_d (pt_virt (as := []) (r := []) gx257_54 rfl (show zmt[256]? = some zM256 from rfl) rfl rfl rfl rfl (K256 S10 pr11) (kqN (fun h_11 P11 => ?_)))
      have S11 := P11.1
      have H := H h_11 P11
      show Pt _ _ _ 57 _ [] _ _
      refine pt_d (pt_1 (fun n d => r_aloadn gx257_57 rfl) ?_)
      refine pt_d (pt_1 (fun n d => r_iloadn gx257_58 rfl) ?_)
      refine pt_d (pt_iconst gx257_59 (fun v12 h12 => ?_))
      refine pt_d (pt_virt (as := [.int v6, .int v12]) (r := []) gx257_60 rfl (show zmt[253]? = some zM253 from rfl) rfl rfl rfl rfl (c_253v S11 h6 h12) (kqN (fun h_13 P13 => ?_)))
      have S13 := P13.1
      have H := H h_13 P13
      show Pt _ _ _ 63 _ [] _ _
      refine pt_d (pt_1 (fun n d => r_goto gx257_63) ?_)
      exact H _
    · have H := H.2 e5
      refine pt_d (pt_1 (fun n d => r_aloadn gx257_20 rfl) ?_)
      refine pt_d (pt_virt (as := []) (r := []) gx257_21 rfl (show zmt[251]? = some zM251 from rfl) rfl rfl rfl rfl (c_251 S) (kqP (fun v14 h14 => ?_)))
      show Pt _ _ _ 24 _ [.int v14] _ _
      refine pt_d (pt_bipush gx257_24 (fun v15 h15 => ?_))
      refine pt_d (pt_icmp_eq gx257_26 h14 h15 (fun e16 => ?_) (fun e16 => ?_))
      · have H := H.1 e16
        refine pt_d (pt_1 (fun n d => r_aloadn gx257_38 rfl) ?_)
        refine pt_d (pt_virt (as := []) (r := []) gx257_39 rfl (show zmt[251]? = some zM251 from rfl) rfl rfl rfl rfl (c_251 S) (kqP (fun v17 h17 => ?_)))
        show Pt _ _ _ 42 _ [.int v17] _ _
        refine pt_d (pt_1 (fun n d => r_istoren (L' := [some (.ref 72), some (.int v17)]) gx257_42 rfl rfl) ?_)
        refine pt_d (pt_1 (fun n d => r_aloadn gx257_43 rfl) ?_)
        refine pt_d (pt_1 (fun n d => r_dup gx257_44 rfl) ?_)
        refine pt_d (pt_getI (B := 64) gx257_45 S (fun v18 h18 => ?_))
        refine pt_d (pt_iconst gx257_48 (fun v19 h19 => ?_))
        refine pt_d (pt_iadd gx257_49 h18 h19 (fun v20 h20 => ?_))
        refine pt_d (pt_putI (B := 64) gx257_50 S h20 (fun h_21 S21 e21 => ?_))
        refine pt_d (pt_1 (fun n d => r_aloadn gx257_53 rfl) ?_)
        have H := H h_21 S21 (by rw [e21])
        obtain ⟨pr22, H⟩ := H
        refine pt_d (pt_virt (as := []) (r := []) gx257_54 rfl (show zmt[256]? = some zM256 from rfl) rfl rfl rfl rfl (K256 S21 pr22) (kqN (fun h_22 P22 => ?_)))
        have S22 := P22.1
        have H := H h_22 P22
        show Pt _ _ _ 57 _ [] _ _
        refine pt_d (pt_1 (fun n d => r_aloadn gx257_57 rfl) ?_)
        refine pt_d (pt_1 (fun n d => r_iloadn gx257_58 rfl) ?_)
        refine pt_d (pt_iconst gx257_59 (fun v23 h23 => ?_))
        refine pt_d (pt_virt (as := [.int v17, .int v23]) (r := []) gx257_60 rfl (show zmt[253]? = some zM253 from rfl) rfl rfl rfl rfl (c_253v S22 h17 h23) (kqN (fun h_24 P24 => ?_)))
        have S24 := P24.1
        have H := H h_24 P24
        show Pt _ _ _ 63 _ [] _ _
        refine pt_d (pt_1 (fun n d => r_goto gx257_63) ?_)
        exact H _
      · have H := H.2 e16
        refine pt_d (pt_1 (fun n d => r_aloadn gx257_29 rfl) ?_)
        refine pt_d (pt_virt (as := []) (r := []) gx257_30 rfl (show zmt[251]? = some zM251 from rfl) rfl rfl rfl rfl (c_251 S) (kqP (fun v25 h25 => ?_)))
        show Pt _ _ _ 33 _ [.int v25] _ _
        refine pt_d (pt_bipush gx257_33 (fun v26 h26 => ?_))
        refine pt_d (pt_icmp_ne gx257_35 h25 h26 (fun e27 => ?_) (fun e27 => ?_))
        · have H := H.1 e27
          exact pt_d (pt_vret gx257_66 ⟨rfl, H⟩)
        · have H := H.2 e27
          refine pt_d (pt_1 (fun n d => r_aloadn gx257_38 rfl) ?_)
          refine pt_d (pt_virt (as := []) (r := []) gx257_39 rfl (show zmt[251]? = some zM251 from rfl) rfl rfl rfl rfl (c_251 S) (kqP (fun v28 h28 => ?_)))
          show Pt _ _ _ 42 _ [.int v28] _ _
          refine pt_d (pt_1 (fun n d => r_istoren (L' := [some (.ref 72), some (.int v28)]) gx257_42 rfl rfl) ?_)
          refine pt_d (pt_1 (fun n d => r_aloadn gx257_43 rfl) ?_)
          refine pt_d (pt_1 (fun n d => r_dup gx257_44 rfl) ?_)
          refine pt_d (pt_getI (B := 64) gx257_45 S (fun v29 h29 => ?_))
          refine pt_d (pt_iconst gx257_48 (fun v30 h30 => ?_))
          refine pt_d (pt_iadd gx257_49 h29 h30 (fun v31 h31 => ?_))
          refine pt_d (pt_putI (B := 64) gx257_50 S h31 (fun h_32 S32 e32 => ?_))
          refine pt_d (pt_1 (fun n d => r_aloadn gx257_53 rfl) ?_)
          have H := H h_32 S32 (by rw [e32])
          obtain ⟨pr33, H⟩ := H
          refine pt_d (pt_virt (as := []) (r := []) gx257_54 rfl (show zmt[256]? = some zM256 from rfl) rfl rfl rfl rfl (K256 S32 pr33) (kqN (fun h_33 P33 => ?_)))
          have S33 := P33.1
          have H := H h_33 P33
          show Pt _ _ _ 57 _ [] _ _
          refine pt_d (pt_1 (fun n d => r_aloadn gx257_57 rfl) ?_)
          refine pt_d (pt_1 (fun n d => r_iloadn gx257_58 rfl) ?_)
          refine pt_d (pt_iconst gx257_59 (fun v34 h34 => ?_))
          refine pt_d (pt_virt (as := [.int v28, .int v34]) (r := []) gx257_60 rfl (show zmt[253]? = some zM253 from rfl) rfl rfl rfl rfl (c_253v S33 h28 h34) (kqN (fun h_35 P35 => ?_)))
          have S35 := P35.1
          have H := H h_35 P35
          show Pt _ _ _ 63 _ [] _ _
          refine pt_d (pt_1 (fun n d => r_goto gx257_63) ?_)
          exact H _
theorem y258_0 {n : Nat} {X : aX} {h : aH} {P : aH → Prop} (S : wS h) (K257 : mv257 n X) (H : ((mpre (vw h) ∧ kpre (vw h)) ∧ ∀ (h_1 : aH), (wS h_1 ∧ mRes 1 (vw h) (vw h_1) ∧ kRes 1 (vw h) (vw h_1)) → (∀ (u1_ : Option Value), Pt n X zM258 4 [some (.ref 72), u1_] [] h_1 (qN P)))) : Pt (n + 1) X zM258 0 [some (.ref 72), none] [] h (qN P) := by
  refine pt_1 (fun n d => r_aloadn gx258_0 rfl) ?_
  obtain ⟨pr1, H⟩ := H
  refine pt_d (pt_virt (as := []) (r := []) gx258_1 rfl (show zmt[257]? = some zM257 from rfl) rfl rfl rfl rfl (K257 S pr1) (kqN (fun h_1 P1 => ?_)))
  have S1 := P1.1
  have H := H h_1 P1
  show Pt _ _ _ 4 _ [] _ _
  exact H _
theorem y258_4 {n : Nat} {X : aX} {h : aH} {P : aH → Prop} {u1 : Option Value} (S : wS h) (K257 : mv257 n X) (H : ((0 ≤ vw h 72 65 → P h) ∧ (vw h 72 65 < 0 → ((mL (vw h) = 43 → ∀ h_10 : aH, wS h_10 → vw h_10 = up (vw h) 72 64 (w32 ((vw h 72 64) + 1)) → ((mpre (vw h_10) ∧ kpre (vw h_10)) ∧ ∀ (h_11 : aH), (wS h_11 ∧ mRes 1 (vw h_10) (vw h_11) ∧ kRes 1 (vw h_10) (vw h_11)) → ∀ (h_13 : aH), (wS h_13 ∧ RLay (vw h_11) (mL (vw h)) 0 (vw h_13)) → (∀ (u1_ : Option Value), Pt n X zM258 4 [some (.ref 72), u1_] [] h_13 (qN P)))) ∧ (mL (vw h) ≠ 43 → ((mL (vw h) ≠ 45 → P h) ∧ (mL (vw h) = 45 → ∀ h_21 : aH, wS h_21 → vw h_21 = up (vw h) 72 64 (w32 ((vw h 72 64) + 1)) → ((mpre (vw h_21) ∧ kpre (vw h_21)) ∧ ∀ (h_22 : aH), (wS h_22 ∧ mRes 1 (vw h_21) (vw h_22) ∧ kRes 1 (vw h_21) (vw h_22)) → ∀ (h_24 : aH), (wS h_24 ∧ RLay (vw h_22) (mL (vw h)) 0 (vw h_24)) → (∀ (u1_ : Option Value), Pt n X zM258 4 [some (.ref 72), u1_] [] h_24 (qN P)))))))))) : Pt (n + 1) X zM258 4 [some (.ref 72), u1] [] h (qN P) := by
  refine pt_1 (fun n d => r_aloadn gx258_4 rfl) ?_
  refine pt_d (pt_getI (B := 65) gx258_5 S (fun v1 h1 => ?_))
  refine pt_d (pt_if_ge gx258_8 h1 (fun e2 => ?_) (fun e2 => ?_))
  · have H := H.1 e2
    exact pt_d (pt_vret gx258_57 ⟨rfl, H⟩)
  · have H := H.2 e2
    refine pt_d (pt_1 (fun n d => r_aloadn gx258_11 rfl) ?_)
    refine pt_d (pt_virt (as := []) (r := []) gx258_12 rfl (show zmt[251]? = some zM251 from rfl) rfl rfl rfl rfl (c_251 S) (kqP (fun v3 h3 => ?_)))
    show Pt _ _ _ 15 _ [.int v3] _ _
    refine pt_d (pt_bipush gx258_15 (fun v4 h4 => ?_))
    refine pt_d (pt_icmp_eq gx258_17 h3 h4 (fun e5 => ?_) (fun e5 => ?_))
    · have H := H.1 e5
      refine pt_d (pt_1 (fun n d => r_aloadn gx258_29 rfl) ?_)
      refine pt_d (pt_virt (as := []) (r := []) gx258_30 rfl (show zmt[251]? = some zM251 from rfl) rfl rfl rfl rfl (c_251 S) (kqP (fun v6 h6 => ?_)))
      show Pt _ _ _ 33 _ [.int v6] _ _
      refine pt_d (pt_1 (fun n d => r_istoren (L' := [some (.ref 72), some (.int v6)]) gx258_33 rfl rfl) ?_)
      refine pt_d (pt_1 (fun n d => r_aloadn gx258_34 rfl) ?_)
      refine pt_d (pt_1 (fun n d => r_dup gx258_35 rfl) ?_)
      refine pt_d (pt_getI (B := 64) gx258_36 S (fun v7 h7 => ?_))
      refine pt_d (pt_iconst gx258_39 (fun v8 h8 => ?_))
      refine pt_d (pt_iadd gx258_40 h7 h8 (fun v9 h9 => ?_))
      refine pt_d (pt_putI (B := 64) gx258_41 S h9 (fun h_10 S10 e10 => ?_))
      refine pt_d (pt_1 (fun n d => r_aloadn gx258_44 rfl) ?_)
      have H := H h_10 S10 (by rw [e10])
      obtain ⟨pr11, H⟩ := H
      refine pt_d (pt_virt (as := []) (r := []) gx258_45 rfl (show zmt[257]? = some zM257 from rfl) rfl rfl rfl rfl (K257 S10 pr11) (kqN (fun h_11 P11 => ?_)))
      have S11 := P11.1
      have H := H h_11 P11
      show Pt _ _ _ 48 _ [] _ _
      refine pt_d (pt_1 (fun n d => r_aloadn gx258_48 rfl) ?_)
      refine pt_d (pt_1 (fun n d => r_iloadn gx258_49 rfl) ?_)
      refine pt_d (pt_iconst gx258_50 (fun v12 h12 => ?_))
      refine pt_d (pt_virt (as := [.int v6, .int v12]) (r := []) gx258_51 rfl (show zmt[253]? = some zM253 from rfl) rfl rfl rfl rfl (c_253v S11 h6 h12) (kqN (fun h_13 P13 => ?_)))
      have S13 := P13.1
      have H := H h_13 P13
      show Pt _ _ _ 54 _ [] _ _
      refine pt_d (pt_1 (fun n d => r_goto gx258_54) ?_)
      exact H _
    · have H := H.2 e5
      refine pt_d (pt_1 (fun n d => r_aloadn gx258_20 rfl) ?_)
      refine pt_d (pt_virt (as := []) (r := []) gx258_21 rfl (show zmt[251]? = some zM251 from rfl) rfl rfl rfl rfl (c_251 S) (kqP (fun v14 h14 => ?_)))
      show Pt _ _ _ 24 _ [.int v14] _ _
      refine pt_d (pt_bipush gx258_24 (fun v15 h15 => ?_))
      refine pt_d (pt_icmp_ne gx258_26 h14 h15 (fun e16 => ?_) (fun e16 => ?_))
      · have H := H.1 e16
        exact pt_d (pt_vret gx258_57 ⟨rfl, H⟩)
      · have H := H.2 e16
        refine pt_d (pt_1 (fun n d => r_aloadn gx258_29 rfl) ?_)
        refine pt_d (pt_virt (as := []) (r := []) gx258_30 rfl (show zmt[251]? = some zM251 from rfl) rfl rfl rfl rfl (c_251 S) (kqP (fun v17 h17 => ?_)))
        show Pt _ _ _ 33 _ [.int v17] _ _
        refine pt_d (pt_1 (fun n d => r_istoren (L' := [some (.ref 72), some (.int v17)]) gx258_33 rfl rfl) ?_)
        refine pt_d (pt_1 (fun n d => r_aloadn gx258_34 rfl) ?_)
        refine pt_d (pt_1 (fun n d => r_dup gx258_35 rfl) ?_)
        refine pt_d (pt_getI (B := 64) gx258_36 S (fun v18 h18 => ?_))
        refine pt_d (pt_iconst gx258_39 (fun v19 h19 => ?_))
        refine pt_d (pt_iadd gx258_40 h18 h19 (fun v20 h20 => ?_))
        refine pt_d (pt_putI (B := 64) gx258_41 S h20 (fun h_21 S21 e21 => ?_))
        refine pt_d (pt_1 (fun n d => r_aloadn gx258_44 rfl) ?_)
        have H := H h_21 S21 (by rw [e21])
        obtain ⟨pr22, H⟩ := H
        refine pt_d (pt_virt (as := []) (r := []) gx258_45 rfl (show zmt[257]? = some zM257 from rfl) rfl rfl rfl rfl (K257 S21 pr22) (kqN (fun h_22 P22 => ?_)))
        have S22 := P22.1
        have H := H h_22 P22
        show Pt _ _ _ 48 _ [] _ _
        refine pt_d (pt_1 (fun n d => r_aloadn gx258_48 rfl) ?_)
        refine pt_d (pt_1 (fun n d => r_iloadn gx258_49 rfl) ?_)
        refine pt_d (pt_iconst gx258_50 (fun v23 h23 => ?_))
        refine pt_d (pt_virt (as := [.int v17, .int v23]) (r := []) gx258_51 rfl (show zmt[253]? = some zM253 from rfl) rfl rfl rfl rfl (c_253v S22 h17 h23) (kqN (fun h_24 P24 => ?_)))
        have S24 := P24.1
        have H := H h_24 P24
        show Pt _ _ _ 54 _ [] _ _
        refine pt_d (pt_1 (fun n d => r_goto gx258_54) ?_)
        exact H _
theorem y260_0 {n : Nat} {X : aX} {h : aH} {P : aH → Prop} (S : wS h) (K259 : mv259 n X) (H : ((mpre (vw h) ∧ kpre (vw h)) ∧ ∀ (h_1 : aH), (wS h_1 ∧ mRes 5 (vw h) (vw h_1) ∧ kRes 5 (vw h) (vw h_1)) → Pt n X zM260 4 [some (.ref 72)] [] h_1 (qN P))) : Pt (n + 1) X zM260 0 [some (.ref 72)] [] h (qN P) := by
  refine pt_1 (fun n d => r_aloadn gx260_0 rfl) ?_
  obtain ⟨pr1, H⟩ := H
  refine pt_d (pt_virt (as := []) (r := []) gx260_1 rfl (show zmt[259]? = some zM259 from rfl) rfl rfl rfl rfl (K259 S pr1) (kqN (fun h_1 P1 => ?_)))
  have S1 := P1.1
  have H := H h_1 P1
  show Pt _ _ _ 4 _ [] _ _
  exact H
theorem y260_4 {n : Nat} {X : aX} {h : aH} {P : aH → Prop} (S : wS h) (K259 : mv259 n X) (H : ((0 ≤ vw h 72 65 → P h) ∧ (vw h 72 65 < 0 → ((mL (vw h) ≠ 38 → P h) ∧ (mL (vw h) = 38 → ∀ h_9 : aH, wS h_9 → vw h_9 = up (vw h) 72 64 (w32 ((vw h 72 64) + 1)) → ((mpre (vw h_9) ∧ kpre (vw h_9)) ∧ ∀ (h_10 : aH), (wS h_10 ∧ mRes 5 (vw h_9) (vw h_10) ∧ kRes 5 (vw h_9) (vw h_10)) → ∀ (h_13 : aH), (wS h_13 ∧ RLay (vw h_10) 38 0 (vw h_13)) → Pt n X zM260 4 [some (.ref 72)] [] h_13 (qN P))))))) : Pt (n + 1) X zM260 4 [some (.ref 72)] [] h (qN P) := by
  refine pt_1 (fun n d => r_aloadn gx260_4 rfl) ?_
  refine pt_d (pt_getI (B := 65) gx260_5 S (fun v1 h1 => ?_))
  refine pt_d (pt_if_ge gx260_8 h1 (fun e2 => ?_) (fun e2 => ?_))
  · have H := H.1 e2
    exact pt_d (pt_vret gx260_44 ⟨rfl, H⟩)
  · have H := H.2 e2
    refine pt_d (pt_1 (fun n d => r_aloadn gx260_11 rfl) ?_)
    refine pt_d (pt_virt (as := []) (r := []) gx260_12 rfl (show zmt[251]? = some zM251 from rfl) rfl rfl rfl rfl (c_251 S) (kqP (fun v3 h3 => ?_)))
    show Pt _ _ _ 15 _ [.int v3] _ _
    refine pt_d (pt_bipush gx260_15 (fun v4 h4 => ?_))
    refine pt_d (pt_icmp_ne gx260_17 h3 h4 (fun e5 => ?_) (fun e5 => ?_))
    · have H := H.1 e5
      exact pt_d (pt_vret gx260_44 ⟨rfl, H⟩)
    · have H := H.2 e5
      refine pt_d (pt_1 (fun n d => r_aloadn gx260_20 rfl) ?_)
      refine pt_d (pt_1 (fun n d => r_dup gx260_21 rfl) ?_)
      refine pt_d (pt_getI (B := 64) gx260_22 S (fun v6 h6 => ?_))
      refine pt_d (pt_iconst gx260_25 (fun v7 h7 => ?_))
      refine pt_d (pt_iadd gx260_26 h6 h7 (fun v8 h8 => ?_))
      refine pt_d (pt_putI (B := 64) gx260_27 S h8 (fun h_9 S9 e9 => ?_))
      refine pt_d (pt_1 (fun n d => r_aloadn gx260_30 rfl) ?_)
      have H := H h_9 S9 (by rw [e9])
      obtain ⟨pr10, H⟩ := H
      refine pt_d (pt_virt (as := []) (r := []) gx260_31 rfl (show zmt[259]? = some zM259 from rfl) rfl rfl rfl rfl (K259 S9 pr10) (kqN (fun h_10 P10 => ?_)))
      have S10 := P10.1
      have H := H h_10 P10
      show Pt _ _ _ 34 _ [] _ _
      refine pt_d (pt_1 (fun n d => r_aloadn gx260_34 rfl) ?_)
      refine pt_d (pt_bipush gx260_35 (fun v11 h11 => ?_))
      refine pt_d (pt_iconst gx260_37 (fun v12 h12 => ?_))
      refine pt_d (pt_virt (as := [.int v11, .int v12]) (r := []) gx260_38 rfl (show zmt[253]? = some zM253 from rfl) rfl rfl rfl rfl (c_253v S10 h11 h12) (kqN (fun h_13 P13 => ?_)))
      have S13 := P13.1
      have H := H h_13 P13
      show Pt _ _ _ 41 _ [] _ _
      refine pt_d (pt_1 (fun n d => r_goto gx260_41) ?_)
      exact H
theorem y261_0 {n : Nat} {X : aX} {h : aH} {P : aH → Prop} (S : wS h) (K260 : mv260 n X) (H : ((mpre (vw h) ∧ kpre (vw h)) ∧ ∀ (h_1 : aH), (wS h_1 ∧ mRes 6 (vw h) (vw h_1) ∧ kRes 6 (vw h) (vw h_1)) → Pt n X zM261 4 [some (.ref 72)] [] h_1 (qN P))) : Pt (n + 1) X zM261 0 [some (.ref 72)] [] h (qN P) := by
  refine pt_1 (fun n d => r_aloadn gx261_0 rfl) ?_
  obtain ⟨pr1, H⟩ := H
  refine pt_d (pt_virt (as := []) (r := []) gx261_1 rfl (show zmt[260]? = some zM260 from rfl) rfl rfl rfl rfl (K260 S pr1) (kqN (fun h_1 P1 => ?_)))
  have S1 := P1.1
  have H := H h_1 P1
  show Pt _ _ _ 4 _ [] _ _
  exact H
theorem y261_4 {n : Nat} {X : aX} {h : aH} {P : aH → Prop} (S : wS h) (K260 : mv260 n X) (H : ((0 ≤ vw h 72 65 → P h) ∧ (vw h 72 65 < 0 → ((mL (vw h) ≠ 124 → P h) ∧ (mL (vw h) = 124 → ∀ h_9 : aH, wS h_9 → vw h_9 = up (vw h) 72 64 (w32 ((vw h 72 64) + 1)) → ((mpre (vw h_9) ∧ kpre (vw h_9)) ∧ ∀ (h_10 : aH), (wS h_10 ∧ mRes 6 (vw h_9) (vw h_10) ∧ kRes 6 (vw h_9) (vw h_10)) → ∀ (h_13 : aH), (wS h_13 ∧ RLay (vw h_10) 124 0 (vw h_13)) → Pt n X zM261 4 [some (.ref 72)] [] h_13 (qN P))))))) : Pt (n + 1) X zM261 4 [some (.ref 72)] [] h (qN P) := by
  refine pt_1 (fun n d => r_aloadn gx261_4 rfl) ?_
  refine pt_d (pt_getI (B := 65) gx261_5 S (fun v1 h1 => ?_))
  refine pt_d (pt_if_ge gx261_8 h1 (fun e2 => ?_) (fun e2 => ?_))
  · have H := H.1 e2
    exact pt_d (pt_vret gx261_44 ⟨rfl, H⟩)
  · have H := H.2 e2
    refine pt_d (pt_1 (fun n d => r_aloadn gx261_11 rfl) ?_)
    refine pt_d (pt_virt (as := []) (r := []) gx261_12 rfl (show zmt[251]? = some zM251 from rfl) rfl rfl rfl rfl (c_251 S) (kqP (fun v3 h3 => ?_)))
    show Pt _ _ _ 15 _ [.int v3] _ _
    refine pt_d (pt_bipush gx261_15 (fun v4 h4 => ?_))
    refine pt_d (pt_icmp_ne gx261_17 h3 h4 (fun e5 => ?_) (fun e5 => ?_))
    · have H := H.1 e5
      exact pt_d (pt_vret gx261_44 ⟨rfl, H⟩)
    · have H := H.2 e5
      refine pt_d (pt_1 (fun n d => r_aloadn gx261_20 rfl) ?_)
      refine pt_d (pt_1 (fun n d => r_dup gx261_21 rfl) ?_)
      refine pt_d (pt_getI (B := 64) gx261_22 S (fun v6 h6 => ?_))
      refine pt_d (pt_iconst gx261_25 (fun v7 h7 => ?_))
      refine pt_d (pt_iadd gx261_26 h6 h7 (fun v8 h8 => ?_))
      refine pt_d (pt_putI (B := 64) gx261_27 S h8 (fun h_9 S9 e9 => ?_))
      refine pt_d (pt_1 (fun n d => r_aloadn gx261_30 rfl) ?_)
      have H := H h_9 S9 (by rw [e9])
      obtain ⟨pr10, H⟩ := H
      refine pt_d (pt_virt (as := []) (r := []) gx261_31 rfl (show zmt[260]? = some zM260 from rfl) rfl rfl rfl rfl (K260 S9 pr10) (kqN (fun h_10 P10 => ?_)))
      have S10 := P10.1
      have H := H h_10 P10
      show Pt _ _ _ 34 _ [] _ _
      refine pt_d (pt_1 (fun n d => r_aloadn gx261_34 rfl) ?_)
      refine pt_d (pt_bipush gx261_35 (fun v11 h11 => ?_))
      refine pt_d (pt_iconst gx261_37 (fun v12 h12 => ?_))
      refine pt_d (pt_virt (as := [.int v11, .int v12]) (r := []) gx261_38 rfl (show zmt[253]? = some zM253 from rfl) rfl rfl rfl rfl (c_253v S10 h11 h12) (kqN (fun h_13 P13 => ?_)))
      have S13 := P13.1
      have H := H h_13 P13
      show Pt _ _ _ 41 _ [] _ _
      refine pt_d (pt_1 (fun n d => r_goto gx261_41) ?_)
      exact H
theorem y259_0 {n : Nat} {X : aX} {h : aH} {P : aH → Prop} (S : wS h) (K258 : mv258 n X) (H : ((mpre (vw h) ∧ kpre (vw h)) ∧ ∀ (h_1 : aH), (wS h_1 ∧ mRes 3 (vw h) (vw h_1) ∧ kRes 3 (vw h) (vw h_1)) → ((0 ≤ vw h_1 72 65 → P h_1) ∧ (vw h_1 72 65 < 0 → ((mL (vw h_1) = 60 → ∀ h_10 : aH, wS h_10 → vw h_10 = up (vw h_1) 72 64 (w32 ((vw h_1 72 64) + 1)) → ((mpre (vw h_10) ∧ kpre (vw h_10)) ∧ ∀ (h_11 : aH), (wS h_11 ∧ mRes 3 (vw h_10) (vw h_11) ∧ kRes 3 (vw h_10) (vw h_11)) → ∀ (h_13 : aH), (wS h_13 ∧ RLay (vw h_11) (mL (vw h_1)) 0 (vw h_13)) → P h_13)) ∧ (mL (vw h_1) ≠ 60 → ((mL (vw h_1) = 61 → ∀ h_19 : aH, wS h_19 → vw h_19 = up (vw h_1) 72 64 (w32 ((vw h_1 72 64) + 1)) → ((mpre (vw h_19) ∧ kpre (vw h_19)) ∧ ∀ (h_20 : aH), (wS h_20 ∧ mRes 3 (vw h_19) (vw h_20) ∧ kRes 3 (vw h_19) (vw h_20)) → ∀ (h_22 : aH), (wS h_22 ∧ RLay (vw h_20) (mL (vw h_1)) 0 (vw h_22)) → P h_22)) ∧ (mL (vw h_1) ≠ 61 → ((mL (vw h_1) = 62 → ∀ h_28 : aH, wS h_28 → vw h_28 = up (vw h_1) 72 64 (w32 ((vw h_1 72 64) + 1)) → ((mpre (vw h_28) ∧ kpre (vw h_28)) ∧ ∀ (h_29 : aH), (wS h_29 ∧ mRes 3 (vw h_28) (vw h_29) ∧ kRes 3 (vw h_28) (vw h_29)) → ∀ (h_31 : aH), (wS h_31 ∧ RLay (vw h_29) (mL (vw h_1)) 0 (vw h_31)) → P h_31)) ∧ (mL (vw h_1) ≠ 62 → P h_1)))))))))) : Pt (n + 1) X zM259 0 [some (.ref 72), none] [] h (qN P) := by
  refine pt_1 (fun n d => r_aloadn gx259_0 rfl) ?_
  obtain ⟨pr1, H⟩ := H
  refine pt_d (pt_virt (as := []) (r := []) gx259_1 rfl (show zmt[258]? = some zM258 from rfl) rfl rfl rfl rfl (K258 S pr1) (kqN (fun h_1 P1 => ?_)))
  have S1 := P1.1
  have H := H h_1 P1
  show Pt _ _ _ 4 _ [] _ _
  refine pt_d (pt_1 (fun n d => r_aloadn gx259_4 rfl) ?_)
  refine pt_d (pt_virt (as := []) (r := []) gx259_5 rfl (show zmt[251]? = some zM251 from rfl) rfl rfl rfl rfl (c_251 S1) (kqP (fun v2 h2 => ?_)))
  show Pt _ _ _ 8 _ [.int v2] _ _
  refine pt_d (pt_1 (fun n d => r_istoren (L' := [some (.ref 72), some (.int v2)]) gx259_8 rfl rfl) ?_)
  refine pt_d (pt_1 (fun n d => r_aloadn gx259_9 rfl) ?_)
  refine pt_d (pt_getI (B := 65) gx259_10 S1 (fun v3 h3 => ?_))
  refine pt_d (pt_if_ge gx259_13 h3 (fun e4 => ?_) (fun e4 => ?_))
  · have H := H.1 e4
    exact pt_d (pt_vret gx259_34 ⟨rfl, H⟩)
  · have H := H.2 e4
    refine pt_d (pt_1 (fun n d => r_iloadn gx259_16 rfl) ?_)
    refine pt_d (pt_bipush gx259_17 (fun v5 h5 => ?_))
    refine pt_d (pt_icmp_eq gx259_19 h2 h5 (fun e6 => ?_) (fun e6 => ?_))
    · have H := H.1 e6
      refine pt_d (pt_1 (fun n d => r_aloadn gx259_35 rfl) ?_)
      refine pt_d (pt_1 (fun n d => r_dup gx259_36 rfl) ?_)
      refine pt_d (pt_getI (B := 64) gx259_37 S1 (fun v7 h7 => ?_))
      refine pt_d (pt_iconst gx259_40 (fun v8 h8 => ?_))
      refine pt_d (pt_iadd gx259_41 h7 h8 (fun v9 h9 => ?_))
      refine pt_d (pt_putI (B := 64) gx259_42 S1 h9 (fun h_10 S10 e10 => ?_))
      refine pt_d (pt_1 (fun n d => r_aloadn gx259_45 rfl) ?_)
      have H := H h_10 S10 (by rw [e10])
      obtain ⟨pr11, H⟩ := H
      refine pt_d (pt_virt (as := []) (r := []) gx259_46 rfl (show zmt[258]? = some zM258 from rfl) rfl rfl rfl rfl (K258 S10 pr11) (kqN (fun h_11 P11 => ?_)))
      have S11 := P11.1
      have H := H h_11 P11
      show Pt _ _ _ 49 _ [] _ _
      refine pt_d (pt_1 (fun n d => r_aloadn gx259_49 rfl) ?_)
      refine pt_d (pt_1 (fun n d => r_iloadn gx259_50 rfl) ?_)
      refine pt_d (pt_iconst gx259_51 (fun v12 h12 => ?_))
      refine pt_d (pt_virt (as := [.int v2, .int v12]) (r := []) gx259_52 rfl (show zmt[253]? = some zM253 from rfl) rfl rfl rfl rfl (c_253v S11 h2 h12) (kqN (fun h_13 P13 => ?_)))
      have S13 := P13.1
      have H := H h_13 P13
      show Pt _ _ _ 55 _ [] _ _
      exact pt_d (pt_vret gx259_55 ⟨rfl, H⟩)
    · have H := H.2 e6
      refine pt_d (pt_1 (fun n d => r_iloadn gx259_22 rfl) ?_)
      refine pt_d (pt_bipush gx259_23 (fun v14 h14 => ?_))
      refine pt_d (pt_icmp_eq gx259_25 h2 h14 (fun e15 => ?_) (fun e15 => ?_))
      · have H := H.1 e15
        refine pt_d (pt_1 (fun n d => r_aloadn gx259_35 rfl) ?_)
        refine pt_d (pt_1 (fun n d => r_dup gx259_36 rfl) ?_)
        refine pt_d (pt_getI (B := 64) gx259_37 S1 (fun v16 h16 => ?_))
        refine pt_d (pt_iconst gx259_40 (fun v17 h17 => ?_))
        refine pt_d (pt_iadd gx259_41 h16 h17 (fun v18 h18 => ?_))
        refine pt_d (pt_putI (B := 64) gx259_42 S1 h18 (fun h_19 S19 e19 => ?_))
        refine pt_d (pt_1 (fun n d => r_aloadn gx259_45 rfl) ?_)
        have H := H h_19 S19 (by rw [e19])
        obtain ⟨pr20, H⟩ := H
        refine pt_d (pt_virt (as := []) (r := []) gx259_46 rfl (show zmt[258]? = some zM258 from rfl) rfl rfl rfl rfl (K258 S19 pr20) (kqN (fun h_20 P20 => ?_)))
        have S20 := P20.1
        have H := H h_20 P20
        show Pt _ _ _ 49 _ [] _ _
        refine pt_d (pt_1 (fun n d => r_aloadn gx259_49 rfl) ?_)
        refine pt_d (pt_1 (fun n d => r_iloadn gx259_50 rfl) ?_)
        refine pt_d (pt_iconst gx259_51 (fun v21 h21 => ?_))
        refine pt_d (pt_virt (as := [.int v2, .int v21]) (r := []) gx259_52 rfl (show zmt[253]? = some zM253 from rfl) rfl rfl rfl rfl (c_253v S20 h2 h21) (kqN (fun h_22 P22 => ?_)))
        have S22 := P22.1
        have H := H h_22 P22
        show Pt _ _ _ 55 _ [] _ _
        exact pt_d (pt_vret gx259_55 ⟨rfl, H⟩)
      · have H := H.2 e15
        refine pt_d (pt_1 (fun n d => r_iloadn gx259_28 rfl) ?_)
        refine pt_d (pt_bipush gx259_29 (fun v23 h23 => ?_))
        refine pt_d (pt_icmp_eq gx259_31 h2 h23 (fun e24 => ?_) (fun e24 => ?_))
        · have H := H.1 e24
          refine pt_d (pt_1 (fun n d => r_aloadn gx259_35 rfl) ?_)
          refine pt_d (pt_1 (fun n d => r_dup gx259_36 rfl) ?_)
          refine pt_d (pt_getI (B := 64) gx259_37 S1 (fun v25 h25 => ?_))
          refine pt_d (pt_iconst gx259_40 (fun v26 h26 => ?_))
          refine pt_d (pt_iadd gx259_41 h25 h26 (fun v27 h27 => ?_))
          refine pt_d (pt_putI (B := 64) gx259_42 S1 h27 (fun h_28 S28 e28 => ?_))
          refine pt_d (pt_1 (fun n d => r_aloadn gx259_45 rfl) ?_)
          have H := H h_28 S28 (by rw [e28])
          obtain ⟨pr29, H⟩ := H
          refine pt_d (pt_virt (as := []) (r := []) gx259_46 rfl (show zmt[258]? = some zM258 from rfl) rfl rfl rfl rfl (K258 S28 pr29) (kqN (fun h_29 P29 => ?_)))
          have S29 := P29.1
          have H := H h_29 P29
          show Pt _ _ _ 49 _ [] _ _
          refine pt_d (pt_1 (fun n d => r_aloadn gx259_49 rfl) ?_)
          refine pt_d (pt_1 (fun n d => r_iloadn gx259_50 rfl) ?_)
          refine pt_d (pt_iconst gx259_51 (fun v30 h30 => ?_))
          refine pt_d (pt_virt (as := [.int v2, .int v30]) (r := []) gx259_52 rfl (show zmt[253]? = some zM253 from rfl) rfl rfl rfl rfl (c_253v S29 h2 h30) (kqN (fun h_31 P31 => ?_)))
          have S31 := P31.1
          have H := H h_31 P31
          show Pt _ _ _ 55 _ [] _ _
          exact pt_d (pt_vret gx259_55 ⟨rfl, H⟩)
        · have H := H.2 e24
          exact pt_d (pt_vret gx259_34 ⟨rfl, H⟩)
theorem k_up {V V4 : vS} (K : kpre V) (e : V4 = up V 72 64 (V 72 64 + 1)) : kpre V4 := by
  have h := K.2
  rw [e]
  refine ⟨by rw [up_j (by decide)]; exact K.1, by rw [up_j (by decide)]; exact h.1, ?_⟩
  rw [up_j (by decide), up_s]
  omega

theorem ek_257 {n : Nat} {X : aX} (K : mv256 n X) (KL : mw257 n X) : mv257 (n + 1) X := by
  intro h S hp
  refine y257_0 S K ⟨hp, fun h1 k1 u1 => ?_⟩
  refine pt_q (KL k1.1 (mRes_p hp.1 k1.2.1) (kF_p (Int.le_refl _) hp.2 k1.2.2.1)) ?_
  rintro v h' ⟨ev, p1, p2, p3⟩
  exact ⟨ev, p1, m_seq gsq1 hp.1 k1.2.1 p2, k_seq ksq1 k1.2.1 k1.2.2 p2 p3⟩
theorem fk_257 {n : Nat} {X : aX} (K : mv256 n X) (KL : mw257 n X) : mw257 (n + 1) X := by
  intro h u1 S H KV
  have go : ∀ (c : Int) (g : aH), 0 ≤ c → opB 2 c = true → vw h 72 65 < 0 → mL (vw h) = c → vw g = up (vw h) 72 64 (w32 (vw h 72 64 + 1)) → (mpre (vw g) ∧ kpre (vw g)) ∧ ∀ h1 : aH, (wS h1 ∧ mRes 0 (vw g) (vw h1) ∧ kRes 0 (vw g) (vw h1)) → ∀ h2 : aH, (wS h2 ∧ RLay (vw h1) (mL (vw h)) 0 (vw h2)) → ∀ (u1 : Option Value), Pt n X zM257 4 [some (.ref 72), u1] [] h2 (qN (fun h' => wS h' ∧ mLo 2 (vw h) (vw h') ∧ kLo 2 (vw h) (vw h'))) := by
    intro c g c0 ho hf hc eg
    obtain ⟨q1, q2, q3, q4, q5, q6, q7, q8⟩ := m_here H hf c0 hc eg
    refine ⟨⟨q2, k_up KV q3⟩, fun h1 k1 h2 l u1 => ?_⟩
    obtain ⟨S1, c1, k1⟩ := k1
    obtain ⟨S2, l⟩ := l
    rw [hc] at l
    refine pt_q (KL S2 (mRes_p q2 (mRes_y c1 (lay_l l))) (kF_p (Int.le_refl _) KV (k_gl H KV hf c0 hc eg c1 k1 l).1)) ?_
    rintro v h' ⟨ev, p1, p2, p3⟩
    exact ⟨ev, p1, m_step glp2 H hf c0 hc ho eg c1 (lay_l l) p2, k_step klp2 H KV hf c0 hc ho eg c1 k1 l p2 p3⟩
  exact y257_4 S K ⟨fun w => ⟨S, ⟨fun z => by omega, fun _ => ⟨mfr_r _, rfl, rfl⟩⟩, ⟨kFs_r, fun z => by omega⟩⟩, fun hf => ⟨fun e0 g S2 eg => go 42 g (by decide) rfl hf e0 eg, fun n0 => ⟨fun e1 g S2 eg => go 47 g (by decide) rfl hf e1 eg, fun n1 => ⟨fun n2 => ⟨S, m_out (fun _ _ _ => lp_e glp2) H (fun hf => by rw [← mL_T H.2.2.1.1]; show (((_ == 42 || _ == 47) || _ == 37)) = false; rw [beq_false_of_ne n0, beq_false_of_ne n1, beq_false_of_ne n2]; rfl), k_out klp2 (fun hf => by rw [← mL_T H.2.2.1.1]; show (((_ == 42 || _ == 47) || _ == 37)) = false; rw [beq_false_of_ne n0, beq_false_of_ne n1, beq_false_of_ne n2]; rfl)⟩, fun e2 g S2 eg => go 37 g (by decide) rfl hf e2 eg⟩⟩⟩⟩
theorem ek_258 {n : Nat} {X : aX} (K : mv257 n X) (KL : mw258 n X) : mv258 (n + 1) X := by
  intro h S hp
  refine y258_0 S K ⟨hp, fun h1 k1 u1 => ?_⟩
  refine pt_q (KL k1.1 (mRes_p hp.1 k1.2.1) (kF_p (Int.le_refl _) hp.2 k1.2.2.1)) ?_
  rintro v h' ⟨ev, p1, p2, p3⟩
  exact ⟨ev, p1, m_seq gsq3 hp.1 k1.2.1 p2, k_seq ksq3 k1.2.1 k1.2.2 p2 p3⟩
theorem fk_258 {n : Nat} {X : aX} (K : mv257 n X) (KL : mw258 n X) : mw258 (n + 1) X := by
  intro h u1 S H KV
  have go : ∀ (c : Int) (g : aH), 0 ≤ c → opB 4 c = true → vw h 72 65 < 0 → mL (vw h) = c → vw g = up (vw h) 72 64 (w32 (vw h 72 64 + 1)) → (mpre (vw g) ∧ kpre (vw g)) ∧ ∀ h1 : aH, (wS h1 ∧ mRes 1 (vw g) (vw h1) ∧ kRes 1 (vw g) (vw h1)) → ∀ h2 : aH, (wS h2 ∧ RLay (vw h1) (mL (vw h)) 0 (vw h2)) → ∀ (u1 : Option Value), Pt n X zM258 4 [some (.ref 72), u1] [] h2 (qN (fun h' => wS h' ∧ mLo 4 (vw h) (vw h') ∧ kLo 4 (vw h) (vw h'))) := by
    intro c g c0 ho hf hc eg
    obtain ⟨q1, q2, q3, q4, q5, q6, q7, q8⟩ := m_here H hf c0 hc eg
    refine ⟨⟨q2, k_up KV q3⟩, fun h1 k1 h2 l u1 => ?_⟩
    obtain ⟨S1, c1, k1⟩ := k1
    obtain ⟨S2, l⟩ := l
    rw [hc] at l
    refine pt_q (KL S2 (mRes_p q2 (mRes_y c1 (lay_l l))) (kF_p (Int.le_refl _) KV (k_gl H KV hf c0 hc eg c1 k1 l).1)) ?_
    rintro v h' ⟨ev, p1, p2, p3⟩
    exact ⟨ev, p1, m_step glp4 H hf c0 hc ho eg c1 (lay_l l) p2, k_step klp4 H KV hf c0 hc ho eg c1 k1 l p2 p3⟩
  exact y258_4 S K ⟨fun w => ⟨S, ⟨fun z => by omega, fun _ => ⟨mfr_r _, rfl, rfl⟩⟩, ⟨kFs_r, fun z => by omega⟩⟩, fun hf => ⟨fun e0 g S2 eg => go 43 g (by decide) rfl hf e0 eg, fun n0 => ⟨fun n1 => ⟨S, m_out (fun _ _ _ => lp_e glp4) H (fun hf => by rw [← mL_T H.2.2.1.1]; show ((_ == 43 || _ == 45)) = false; rw [beq_false_of_ne n0, beq_false_of_ne n1]; rfl), k_out klp4 (fun hf => by rw [← mL_T H.2.2.1.1]; show ((_ == 43 || _ == 45)) = false; rw [beq_false_of_ne n0, beq_false_of_ne n1]; rfl)⟩, fun e1 g S2 eg => go 45 g (by decide) rfl hf e1 eg⟩⟩⟩
theorem ek_260 {n : Nat} {X : aX} (K : mv259 n X) (KL : mw260 n X) : mv260 (n + 1) X := by
  intro h S hp
  refine y260_0 S K ⟨hp, fun h1 k1 => ?_⟩
  refine pt_q (KL k1.1 (mRes_p hp.1 k1.2.1) (kF_p (Int.le_refl _) hp.2 k1.2.2.1)) ?_
  rintro v h' ⟨ev, p1, p2, p3⟩
  exact ⟨ev, p1, m_seq gsq6 hp.1 k1.2.1 p2, k_seq ksq6 k1.2.1 k1.2.2 p2 p3⟩
theorem fk_260 {n : Nat} {X : aX} (K : mv259 n X) (KL : mw260 n X) : mw260 (n + 1) X := by
  intro h S H KV
  have go : ∀ (c : Int) (g : aH), 0 ≤ c → opB 7 c = true → vw h 72 65 < 0 → mL (vw h) = c → vw g = up (vw h) 72 64 (w32 (vw h 72 64 + 1)) → (mpre (vw g) ∧ kpre (vw g)) ∧ ∀ h1 : aH, (wS h1 ∧ mRes 5 (vw g) (vw h1) ∧ kRes 5 (vw g) (vw h1)) → ∀ h2 : aH, (wS h2 ∧ RLay (vw h1) c 0 (vw h2)) → Pt n X zM260 4 [some (.ref 72)] [] h2 (qN (fun h' => wS h' ∧ mLo 7 (vw h) (vw h') ∧ kLo 7 (vw h) (vw h'))) := by
    intro c g c0 ho hf hc eg
    obtain ⟨q1, q2, q3, q4, q5, q6, q7, q8⟩ := m_here H hf c0 hc eg
    refine ⟨⟨q2, k_up KV q3⟩, fun h1 k1 h2 l => ?_⟩
    obtain ⟨S1, c1, k1⟩ := k1
    obtain ⟨S2, l⟩ := l
    refine pt_q (KL S2 (mRes_p q2 (mRes_y c1 (lay_l l))) (kF_p (Int.le_refl _) KV (k_gl H KV hf c0 hc eg c1 k1 l).1)) ?_
    rintro v h' ⟨ev, p1, p2, p3⟩
    exact ⟨ev, p1, m_step glp7 H hf c0 hc ho eg c1 (lay_l l) p2, k_step klp7 H KV hf c0 hc ho eg c1 k1 l p2 p3⟩
  exact y260_4 S K ⟨fun w => ⟨S, ⟨fun z => by omega, fun _ => ⟨mfr_r _, rfl, rfl⟩⟩, ⟨kFs_r, fun z => by omega⟩⟩, fun hf => ⟨fun n0 => ⟨S, m_out (fun _ _ _ => lp_e glp7) H (fun hf => by rw [← mL_T H.2.2.1.1]; show (_ == 38) = false; rw [beq_false_of_ne n0]), k_out klp7 (fun hf => by rw [← mL_T H.2.2.1.1]; show (_ == 38) = false; rw [beq_false_of_ne n0])⟩, fun e0 g S2 eg => go 38 g (by decide) rfl hf e0 eg⟩⟩
theorem ek_261 {n : Nat} {X : aX} (K : mv260 n X) (KL : mw261 n X) : mv261 (n + 1) X := by
  intro h S hp
  refine y261_0 S K ⟨hp, fun h1 k1 => ?_⟩
  refine pt_q (KL k1.1 (mRes_p hp.1 k1.2.1) (kF_p (Int.le_refl _) hp.2 k1.2.2.1)) ?_
  rintro v h' ⟨ev, p1, p2, p3⟩
  exact ⟨ev, p1, m_seq gsq8 hp.1 k1.2.1 p2, k_seq ksq8 k1.2.1 k1.2.2 p2 p3⟩
theorem fk_261 {n : Nat} {X : aX} (K : mv260 n X) (KL : mw261 n X) : mw261 (n + 1) X := by
  intro h S H KV
  have go : ∀ (c : Int) (g : aH), 0 ≤ c → opB 9 c = true → vw h 72 65 < 0 → mL (vw h) = c → vw g = up (vw h) 72 64 (w32 (vw h 72 64 + 1)) → (mpre (vw g) ∧ kpre (vw g)) ∧ ∀ h1 : aH, (wS h1 ∧ mRes 6 (vw g) (vw h1) ∧ kRes 6 (vw g) (vw h1)) → ∀ h2 : aH, (wS h2 ∧ RLay (vw h1) c 0 (vw h2)) → Pt n X zM261 4 [some (.ref 72)] [] h2 (qN (fun h' => wS h' ∧ mLo 9 (vw h) (vw h') ∧ kLo 9 (vw h) (vw h'))) := by
    intro c g c0 ho hf hc eg
    obtain ⟨q1, q2, q3, q4, q5, q6, q7, q8⟩ := m_here H hf c0 hc eg
    refine ⟨⟨q2, k_up KV q3⟩, fun h1 k1 h2 l => ?_⟩
    obtain ⟨S1, c1, k1⟩ := k1
    obtain ⟨S2, l⟩ := l
    refine pt_q (KL S2 (mRes_p q2 (mRes_y c1 (lay_l l))) (kF_p (Int.le_refl _) KV (k_gl H KV hf c0 hc eg c1 k1 l).1)) ?_
    rintro v h' ⟨ev, p1, p2, p3⟩
    exact ⟨ev, p1, m_step glp9 H hf c0 hc ho eg c1 (lay_l l) p2, k_step klp9 H KV hf c0 hc ho eg c1 k1 l p2 p3⟩
  exact y261_4 S K ⟨fun w => ⟨S, ⟨fun z => by omega, fun _ => ⟨mfr_r _, rfl, rfl⟩⟩, ⟨kFs_r, fun z => by omega⟩⟩, fun hf => ⟨fun n0 => ⟨S, m_out (fun _ _ _ => lp_e glp9) H (fun hf => by rw [← mL_T H.2.2.1.1]; show (_ == 124) = false; rw [beq_false_of_ne n0]), k_out klp9 (fun hf => by rw [← mL_T H.2.2.1.1]; show (_ == 124) = false; rw [beq_false_of_ne n0])⟩, fun e0 g S2 eg => go 124 g (by decide) rfl hf e0 eg⟩⟩

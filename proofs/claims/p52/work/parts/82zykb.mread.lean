-- ===== the model reads a text =====
abbrev mt256 (n : Nat) (X : aX) : Prop := ∀ {h : aH}, wS h → mpre (vw h) → Pt n X zM256 0 [some (.ref 72), none, none, none] [] h (qN (fun h' => wS h' ∧ mRes 0 (vw h) (vw h')))
abbrev mt257 (n : Nat) (X : aX) : Prop := ∀ {h : aH}, wS h → mpre (vw h) → Pt n X zM257 0 [some (.ref 72), none] [] h (qN (fun h' => wS h' ∧ mRes 1 (vw h) (vw h')))
abbrev mt258 (n : Nat) (X : aX) : Prop := ∀ {h : aH}, wS h → mpre (vw h) → Pt n X zM258 0 [some (.ref 72), none] [] h (qN (fun h' => wS h' ∧ mRes 3 (vw h) (vw h')))
abbrev mt259 (n : Nat) (X : aX) : Prop := ∀ {h : aH}, wS h → mpre (vw h) → Pt n X zM259 0 [some (.ref 72), none] [] h (qN (fun h' => wS h' ∧ mRes 5 (vw h) (vw h')))
abbrev mt260 (n : Nat) (X : aX) : Prop := ∀ {h : aH}, wS h → mpre (vw h) → Pt n X zM260 0 [some (.ref 72)] [] h (qN (fun h' => wS h' ∧ mRes 6 (vw h) (vw h')))
abbrev mt261 (n : Nat) (X : aX) : Prop := ∀ {h : aH}, wS h → mpre (vw h) → Pt n X zM261 0 [some (.ref 72)] [] h (qN (fun h' => wS h' ∧ mRes 8 (vw h) (vw h')))
abbrev ml257 (n : Nat) (X : aX) : Prop := ∀ {h : aH} {u1 : Option Value}, wS h → mlp (vw h) → Pt n X zM257 4 [some (.ref 72), u1] [] h (qN (fun h' => wS h' ∧ mLo 2 (vw h) (vw h')))
abbrev ml258 (n : Nat) (X : aX) : Prop := ∀ {h : aH} {u1 : Option Value}, wS h → mlp (vw h) → Pt n X zM258 4 [some (.ref 72), u1] [] h (qN (fun h' => wS h' ∧ mLo 4 (vw h) (vw h')))
abbrev ml260 (n : Nat) (X : aX) : Prop := ∀ {h : aH} , wS h → mlp (vw h) → Pt n X zM260 4 [some (.ref 72)] [] h (qN (fun h' => wS h' ∧ mLo 7 (vw h) (vw h')))
abbrev ml261 (n : Nat) (X : aX) : Prop := ∀ {h : aH} , wS h → mlp (vw h) → Pt n X zM261 4 [some (.ref 72)] [] h (qN (fun h' => wS h' ∧ mLo 9 (vw h) (vw h')))
theorem d257_0 {n : Nat} {X : aX} {h : aH} {P : aH → Prop} (S : wS h) (K256 : mt256 n X) (H : ((mpre (vw h)) ∧ ∀ (h_1 : aH), (wS h_1 ∧ mRes 0 (vw h) (vw h_1)) → (∀ (u1_ : Option Value), Pt n X zM257 4 [some (.ref 72), u1_] [] h_1 (qN P)))) : Pt (n + 1) X zM257 0 [some (.ref 72), none] [] h (qN P) := by
  refine pt_1 (fun n d => r_aloadn gx257_0 rfl) ?_
  obtain ⟨pr1, H⟩ := H
  refine pt_d (pt_virt (as := []) (r := []) gx257_1 rfl (show zmt[256]? = some zM256 from rfl) rfl rfl rfl rfl (K256 S pr1) (kqN (fun h_1 P1 => ?_)))
  have S1 := P1.1
  have H := H h_1 P1
  show Pt _ _ _ 4 _ [] _ _
  exact H _
theorem d257_4 {n : Nat} {X : aX} {h : aH} {P : aH → Prop} {u1 : Option Value} (S : wS h) (K256 : mt256 n X) (H : ((0 ≤ vw h 72 65 → P h) ∧ (vw h 72 65 < 0 → ((mL (vw h) = 42 → ∀ h_10 : aH, wS h_10 → vw h_10 = up (vw h) 72 64 (w32 ((vw h 72 64) + 1)) → ((mpre (vw h_10)) ∧ ∀ (h_11 : aH), (wS h_11 ∧ mRes 0 (vw h_10) (vw h_11)) → ∀ (h_13 : aH), (wS h_13 ∧ lfr (vw h_11) (vw h_13)) → (∀ (u1_ : Option Value), Pt n X zM257 4 [some (.ref 72), u1_] [] h_13 (qN P)))) ∧ (mL (vw h) ≠ 42 → ((mL (vw h) = 47 → ∀ h_21 : aH, wS h_21 → vw h_21 = up (vw h) 72 64 (w32 ((vw h 72 64) + 1)) → ((mpre (vw h_21)) ∧ ∀ (h_22 : aH), (wS h_22 ∧ mRes 0 (vw h_21) (vw h_22)) → ∀ (h_24 : aH), (wS h_24 ∧ lfr (vw h_22) (vw h_24)) → (∀ (u1_ : Option Value), Pt n X zM257 4 [some (.ref 72), u1_] [] h_24 (qN P)))) ∧ (mL (vw h) ≠ 47 → ((mL (vw h) ≠ 37 → P h) ∧ (mL (vw h) = 37 → ∀ h_32 : aH, wS h_32 → vw h_32 = up (vw h) 72 64 (w32 ((vw h 72 64) + 1)) → ((mpre (vw h_32)) ∧ ∀ (h_33 : aH), (wS h_33 ∧ mRes 0 (vw h_32) (vw h_33)) → ∀ (h_35 : aH), (wS h_35 ∧ lfr (vw h_33) (vw h_35)) → (∀ (u1_ : Option Value), Pt n X zM257 4 [some (.ref 72), u1_] [] h_35 (qN P)))))))))))) : Pt (n + 1) X zM257 4 [some (.ref 72), u1] [] h (qN P) := by
  refine pt_1 (fun n d => r_aloadn gx257_4 rfl) ?_
  refine pt_d (pt_getI (B := 65) gx257_5 S (fun v1 h1 => ?_))
  refine pt_d (pt_if_ge gx257_8 h1 (fun e2 => ?_) (fun e2 => ?_))
  · have H := H.1 e2
    exact pt_d (pt_vret gx257_66 ⟨rfl, H⟩)
  · have H := H.2 e2
    refine pt_d (pt_1 (fun n d => r_aloadn gx257_11 rfl) ?_)
    refine pt_d (pt_virt (as := []) (r := []) gx257_12 rfl (show zmt[251]? = some zM251 from rfl) rfl rfl rfl rfl (c_251 S) (kqP (fun v3 h3 => ?_)))
    show Pt _ _ _ 15 _ [.int v3] _ _
    refine pt_d (pt_bipush gx257_15 (fun v4 h4 => ?_))
    refine pt_d (pt_icmp_eq gx257_17 h3 h4 (fun e5 => ?_) (fun e5 => ?_))
    · have H := H.1 e5
      refine pt_d (pt_1 (fun n d => r_aloadn gx257_38 rfl) ?_)
      refine pt_d (pt_virt (as := []) (r := []) gx257_39 rfl (show zmt[251]? = some zM251 from rfl) rfl rfl rfl rfl (c_251 S) (kqP (fun v6 h6 => ?_)))
      show Pt _ _ _ 42 _ [.int v6] _ _
      refine pt_d (pt_1 (fun n d => r_istoren (L' := [some (.ref 72), some (.int v6)]) gx257_42 rfl rfl) ?_)
      refine pt_d (pt_1 (fun n d => r_aloadn gx257_43 rfl) ?_)
      refine pt_d (pt_1 (fun n d => r_dup gx257_44 rfl) ?_)
      refine pt_d (pt_getI (B := 64) gx257_45 S (fun v7 h7 => ?_))
      refine pt_d (pt_iconst gx257_48 (fun v8 h8 => ?_))
      refine pt_d (pt_iadd gx257_49 h7 h8 (fun v9 h9 => ?_))
      refine pt_d (pt_putI (B := 64) gx257_50 S h9 (fun h_10 S10 e10 => ?_))
      refine pt_d (pt_1 (fun n d => r_aloadn gx257_53 rfl) ?_)
      have H := H h_10 S10 (by rw [e10])
      obtain ⟨pr11, H⟩ := H
      refine pt_d (pt_virt (as := []) (r := []) gx257_54 rfl (show zmt[256]? = some zM256 from rfl) rfl rfl rfl rfl (K256 S10 pr11) (kqN (fun h_11 P11 => ?_)))
      have S11 := P11.1
      have H := H h_11 P11
      show Pt _ _ _ 57 _ [] _ _
      refine pt_d (pt_1 (fun n d => r_aloadn gx257_57 rfl) ?_)
      refine pt_d (pt_1 (fun n d => r_iloadn gx257_58 rfl) ?_)
      refine pt_d (pt_iconst gx257_59 (fun v12 h12 => ?_))
      refine pt_d (pt_virt (as := [.int v6, .int v12]) (r := []) gx257_60 rfl (show zmt[253]? = some zM253 from rfl) rfl rfl rfl rfl (c_253 S11 h6 h12) (kqN (fun h_13 P13 => ?_)))
      have S13 := P13.1
      have H := H h_13 P13
      show Pt _ _ _ 63 _ [] _ _
      refine pt_d (pt_1 (fun n d => r_goto gx257_63) ?_)
      exact H _
    · have H := H.2 e5
      refine pt_d (pt_1 (fun n d => r_aloadn gx257_20 rfl) ?_)
      refine pt_d (pt_virt (as := []) (r := []) gx257_21 rfl (show zmt[251]? = some zM251 from rfl) rfl rfl rfl rfl (c_251 S) (kqP (fun v14 h14 => ?_)))
      show Pt _ _ _ 24 _ [.int v14] _ _
      refine pt_d (pt_bipush gx257_24 (fun v15 h15 => ?_))
      refine pt_d (pt_icmp_eq gx257_26 h14 h15 (fun e16 => ?_) (fun e16 => ?_))
      · have H := H.1 e16
        refine pt_d (pt_1 (fun n d => r_aloadn gx257_38 rfl) ?_)
        refine pt_d (pt_virt (as := []) (r := []) gx257_39 rfl (show zmt[251]? = some zM251 from rfl) rfl rfl rfl rfl (c_251 S) (kqP (fun v17 h17 => ?_)))
        show Pt _ _ _ 42 _ [.int v17] _ _
        refine pt_d (pt_1 (fun n d => r_istoren (L' := [some (.ref 72), some (.int v17)]) gx257_42 rfl rfl) ?_)
        refine pt_d (pt_1 (fun n d => r_aloadn gx257_43 rfl) ?_)
        refine pt_d (pt_1 (fun n d => r_dup gx257_44 rfl) ?_)
        refine pt_d (pt_getI (B := 64) gx257_45 S (fun v18 h18 => ?_))
        refine pt_d (pt_iconst gx257_48 (fun v19 h19 => ?_))
        refine pt_d (pt_iadd gx257_49 h18 h19 (fun v20 h20 => ?_))
        refine pt_d (pt_putI (B := 64) gx257_50 S h20 (fun h_21 S21 e21 => ?_))
        refine pt_d (pt_1 (fun n d => r_aloadn gx257_53 rfl) ?_)
        have H := H h_21 S21 (by rw [e21])
        obtain ⟨pr22, H⟩ := H
        refine pt_d (pt_virt (as := []) (r := []) gx257_54 rfl (show zmt[256]? = some zM256 from rfl) rfl rfl rfl rfl (K256 S21 pr22) (kqN (fun h_22 P22 => ?_)))
        have S22 := P22.1
        have H := H h_22 P22
        show Pt _ _ _ 57 _ [] _ _
        refine pt_d (pt_1 (fun n d => r_aloadn gx257_57 rfl) ?_)
        refine pt_d (pt_1 (fun n d => r_iloadn gx257_58 rfl) ?_)
        refine pt_d (pt_iconst gx257_59 (fun v23 h23 => ?_))
        refine pt_d (pt_virt (as := [.int v17, .int v23]) (r := []) gx257_60 rfl (show zmt[253]? = some zM253 from rfl) rfl rfl rfl rfl (c_253 S22 h17 h23) (kqN (fun h_24 P24 => ?_)))
        have S24 := P24.1
        have H := H h_24 P24
        show Pt _ _ _ 63 _ [] _ _
        refine pt_d (pt_1 (fun n d => r_goto gx257_63) ?_)
        exact H _
      · have H := H.2 e16
        refine pt_d (pt_1 (fun n d => r_aloadn gx257_29 rfl) ?_)
        refine pt_d (pt_virt (as := []) (r := []) gx257_30 rfl (show zmt[251]? = some zM251 from rfl) rfl rfl rfl rfl (c_251 S) (kqP (fun v25 h25 => ?_)))
        show Pt _ _ _ 33 _ [.int v25] _ _
        refine pt_d (pt_bipush gx257_33 (fun v26 h26 => ?_))
        refine pt_d (pt_icmp_ne gx257_35 h25 h26 (fun e27 => ?_) (fun e27 => ?_))
        · have H := H.1 e27
          exact pt_d (pt_vret gx257_66 ⟨rfl, H⟩)
        · have H := H.2 e27
          refine pt_d (pt_1 (fun n d => r_aloadn gx257_38 rfl) ?_)
          refine pt_d (pt_virt (as := []) (r := []) gx257_39 rfl (show zmt[251]? = some zM251 from rfl) rfl rfl rfl rfl (c_251 S) (kqP (fun v28 h28 => ?_)))
          show Pt _ _ _ 42 _ [.int v28] _ _
          refine pt_d (pt_1 (fun n d => r_istoren (L' := [some (.ref 72), some (.int v28)]) gx257_42 rfl rfl) ?_)
          refine pt_d (pt_1 (fun n d => r_aloadn gx257_43 rfl) ?_)
          refine pt_d (pt_1 (fun n d => r_dup gx257_44 rfl) ?_)
          refine pt_d (pt_getI (B := 64) gx257_45 S (fun v29 h29 => ?_))
          refine pt_d (pt_iconst gx257_48 (fun v30 h30 => ?_))
          refine pt_d (pt_iadd gx257_49 h29 h30 (fun v31 h31 => ?_))
          refine pt_d (pt_putI (B := 64) gx257_50 S h31 (fun h_32 S32 e32 => ?_))
          refine pt_d (pt_1 (fun n d => r_aloadn gx257_53 rfl) ?_)
          have H := H h_32 S32 (by rw [e32])
          obtain ⟨pr33, H⟩ := H
          refine pt_d (pt_virt (as := []) (r := []) gx257_54 rfl (show zmt[256]? = some zM256 from rfl) rfl rfl rfl rfl (K256 S32 pr33) (kqN (fun h_33 P33 => ?_)))
          have S33 := P33.1
          have H := H h_33 P33
          show Pt _ _ _ 57 _ [] _ _
          refine pt_d (pt_1 (fun n d => r_aloadn gx257_57 rfl) ?_)
          refine pt_d (pt_1 (fun n d => r_iloadn gx257_58 rfl) ?_)
          refine pt_d (pt_iconst gx257_59 (fun v34 h34 => ?_))
          refine pt_d (pt_virt (as := [.int v28, .int v34]) (r := []) gx257_60 rfl (show zmt[253]? = some zM253 from rfl) rfl rfl rfl rfl (c_253 S33 h28 h34) (kqN (fun h_35 P35 => ?_)))
          have S35 := P35.1
          have H := H h_35 P35
          show Pt _ _ _ 63 _ [] _ _
          refine pt_d (pt_1 (fun n d => r_goto gx257_63) ?_)
          exact H _
theorem d258_0 {n : Nat} {X : aX} {h : aH} {P : aH → Prop} (S : wS h) (K257 : mt257 n X) (H : ((mpre (vw h)) ∧ ∀ (h_1 : aH), (wS h_1 ∧ mRes 1 (vw h) (vw h_1)) → (∀ (u1_ : Option Value), Pt n X zM258 4 [some (.ref 72), u1_] [] h_1 (qN P)))) : Pt (n + 1) X zM258 0 [some (.ref 72), none] [] h (qN P) := by
  refine pt_1 (fun n d => r_aloadn gx258_0 rfl) ?_
  obtain ⟨pr1, H⟩ := H
  refine pt_d (pt_virt (as := []) (r := []) gx258_1 rfl (show zmt[257]? = some zM257 from rfl) rfl rfl rfl rfl (K257 S pr1) (kqN (fun h_1 P1 => ?_)))
  have S1 := P1.1
  have H := H h_1 P1
  show Pt _ _ _ 4 _ [] _ _
  exact H _
theorem d258_4 {n : Nat} {X : aX} {h : aH} {P : aH → Prop} {u1 : Option Value} (S : wS h) (K257 : mt257 n X) (H : ((0 ≤ vw h 72 65 → P h) ∧ (vw h 72 65 < 0 → ((mL (vw h) = 43 → ∀ h_10 : aH, wS h_10 → vw h_10 = up (vw h) 72 64 (w32 ((vw h 72 64) + 1)) → ((mpre (vw h_10)) ∧ ∀ (h_11 : aH), (wS h_11 ∧ mRes 1 (vw h_10) (vw h_11)) → ∀ (h_13 : aH), (wS h_13 ∧ lfr (vw h_11) (vw h_13)) → (∀ (u1_ : Option Value), Pt n X zM258 4 [some (.ref 72), u1_] [] h_13 (qN P)))) ∧ (mL (vw h) ≠ 43 → ((mL (vw h) ≠ 45 → P h) ∧ (mL (vw h) = 45 → ∀ h_21 : aH, wS h_21 → vw h_21 = up (vw h) 72 64 (w32 ((vw h 72 64) + 1)) → ((mpre (vw h_21)) ∧ ∀ (h_22 : aH), (wS h_22 ∧ mRes 1 (vw h_21) (vw h_22)) → ∀ (h_24 : aH), (wS h_24 ∧ lfr (vw h_22) (vw h_24)) → (∀ (u1_ : Option Value), Pt n X zM258 4 [some (.ref 72), u1_] [] h_24 (qN P)))))))))) : Pt (n + 1) X zM258 4 [some (.ref 72), u1] [] h (qN P) := by
  refine pt_1 (fun n d => r_aloadn gx258_4 rfl) ?_
  refine pt_d (pt_getI (B := 65) gx258_5 S (fun v1 h1 => ?_))
  refine pt_d (pt_if_ge gx258_8 h1 (fun e2 => ?_) (fun e2 => ?_))
  · have H := H.1 e2
    exact pt_d (pt_vret gx258_57 ⟨rfl, H⟩)
  · have H := H.2 e2
    refine pt_d (pt_1 (fun n d => r_aloadn gx258_11 rfl) ?_)
    refine pt_d (pt_virt (as := []) (r := []) gx258_12 rfl (show zmt[251]? = some zM251 from rfl) rfl rfl rfl rfl (c_251 S) (kqP (fun v3 h3 => ?_)))
    show Pt _ _ _ 15 _ [.int v3] _ _
    refine pt_d (pt_bipush gx258_15 (fun v4 h4 => ?_))
    refine pt_d (pt_icmp_eq gx258_17 h3 h4 (fun e5 => ?_) (fun e5 => ?_))
    · have H := H.1 e5
      refine pt_d (pt_1 (fun n d => r_aloadn gx258_29 rfl) ?_)
      refine pt_d (pt_virt (as := []) (r := []) gx258_30 rfl (show zmt[251]? = some zM251 from rfl) rfl rfl rfl rfl (c_251 S) (kqP (fun v6 h6 => ?_)))
      show Pt _ _ _ 33 _ [.int v6] _ _
      refine pt_d (pt_1 (fun n d => r_istoren (L' := [some (.ref 72), some (.int v6)]) gx258_33 rfl rfl) ?_)
      refine pt_d (pt_1 (fun n d => r_aloadn gx258_34 rfl) ?_)
      refine pt_d (pt_1 (fun n d => r_dup gx258_35 rfl) ?_)
      refine pt_d (pt_getI (B := 64) gx258_36 S (fun v7 h7 => ?_))
      refine pt_d (pt_iconst gx258_39 (fun v8 h8 => ?_))
      refine pt_d (pt_iadd gx258_40 h7 h8 (fun v9 h9 => ?_))
      refine pt_d (pt_putI (B := 64) gx258_41 S h9 (fun h_10 S10 e10 => ?_))
      refine pt_d (pt_1 (fun n d => r_aloadn gx258_44 rfl) ?_)
      have H := H h_10 S10 (by rw [e10])
      obtain ⟨pr11, H⟩ := H
      refine pt_d (pt_virt (as := []) (r := []) gx258_45 rfl (show zmt[257]? = some zM257 from rfl) rfl rfl rfl rfl (K257 S10 pr11) (kqN (fun h_11 P11 => ?_)))
      have S11 := P11.1
      have H := H h_11 P11
      show Pt _ _ _ 48 _ [] _ _
      refine pt_d (pt_1 (fun n d => r_aloadn gx258_48 rfl) ?_)
      refine pt_d (pt_1 (fun n d => r_iloadn gx258_49 rfl) ?_)
      refine pt_d (pt_iconst gx258_50 (fun v12 h12 => ?_))
      refine pt_d (pt_virt (as := [.int v6, .int v12]) (r := []) gx258_51 rfl (show zmt[253]? = some zM253 from rfl) rfl rfl rfl rfl (c_253 S11 h6 h12) (kqN (fun h_13 P13 => ?_)))
      have S13 := P13.1
      have H := H h_13 P13
      show Pt _ _ _ 54 _ [] _ _
      refine pt_d (pt_1 (fun n d => r_goto gx258_54) ?_)
      exact H _
    · have H := H.2 e5
      refine pt_d (pt_1 (fun n d => r_aloadn gx258_20 rfl) ?_)
      refine pt_d (pt_virt (as := []) (r := []) gx258_21 rfl (show zmt[251]? = some zM251 from rfl) rfl rfl rfl rfl (c_251 S) (kqP (fun v14 h14 => ?_)))
      show Pt _ _ _ 24 _ [.int v14] _ _
      refine pt_d (pt_bipush gx258_24 (fun v15 h15 => ?_))
      refine pt_d (pt_icmp_ne gx258_26 h14 h15 (fun e16 => ?_) (fun e16 => ?_))
      · have H := H.1 e16
        exact pt_d (pt_vret gx258_57 ⟨rfl, H⟩)
      · have H := H.2 e16
        refine pt_d (pt_1 (fun n d => r_aloadn gx258_29 rfl) ?_)
        refine pt_d (pt_virt (as := []) (r := []) gx258_30 rfl (show zmt[251]? = some zM251 from rfl) rfl rfl rfl rfl (c_251 S) (kqP (fun v17 h17 => ?_)))
        show Pt _ _ _ 33 _ [.int v17] _ _
        refine pt_d (pt_1 (fun n d => r_istoren (L' := [some (.ref 72), some (.int v17)]) gx258_33 rfl rfl) ?_)
        refine pt_d (pt_1 (fun n d => r_aloadn gx258_34 rfl) ?_)
        refine pt_d (pt_1 (fun n d => r_dup gx258_35 rfl) ?_)
        refine pt_d (pt_getI (B := 64) gx258_36 S (fun v18 h18 => ?_))
        refine pt_d (pt_iconst gx258_39 (fun v19 h19 => ?_))
        refine pt_d (pt_iadd gx258_40 h18 h19 (fun v20 h20 => ?_))
        refine pt_d (pt_putI (B := 64) gx258_41 S h20 (fun h_21 S21 e21 => ?_))
        refine pt_d (pt_1 (fun n d => r_aloadn gx258_44 rfl) ?_)
        have H := H h_21 S21 (by rw [e21])
        obtain ⟨pr22, H⟩ := H
        refine pt_d (pt_virt (as := []) (r := []) gx258_45 rfl (show zmt[257]? = some zM257 from rfl) rfl rfl rfl rfl (K257 S21 pr22) (kqN (fun h_22 P22 => ?_)))
        have S22 := P22.1
        have H := H h_22 P22
        show Pt _ _ _ 48 _ [] _ _
        refine pt_d (pt_1 (fun n d => r_aloadn gx258_48 rfl) ?_)
        refine pt_d (pt_1 (fun n d => r_iloadn gx258_49 rfl) ?_)
        refine pt_d (pt_iconst gx258_50 (fun v23 h23 => ?_))
        refine pt_d (pt_virt (as := [.int v17, .int v23]) (r := []) gx258_51 rfl (show zmt[253]? = some zM253 from rfl) rfl rfl rfl rfl (c_253 S22 h17 h23) (kqN (fun h_24 P24 => ?_)))
        have S24 := P24.1
        have H := H h_24 P24
        show Pt _ _ _ 54 _ [] _ _
        refine pt_d (pt_1 (fun n d => r_goto gx258_54) ?_)
        exact H _
theorem d260_0 {n : Nat} {X : aX} {h : aH} {P : aH → Prop} (S : wS h) (K259 : mt259 n X) (H : ((mpre (vw h)) ∧ ∀ (h_1 : aH), (wS h_1 ∧ mRes 5 (vw h) (vw h_1)) → Pt n X zM260 4 [some (.ref 72)] [] h_1 (qN P))) : Pt (n + 1) X zM260 0 [some (.ref 72)] [] h (qN P) := by
  refine pt_1 (fun n d => r_aloadn gx260_0 rfl) ?_
  obtain ⟨pr1, H⟩ := H
  refine pt_d (pt_virt (as := []) (r := []) gx260_1 rfl (show zmt[259]? = some zM259 from rfl) rfl rfl rfl rfl (K259 S pr1) (kqN (fun h_1 P1 => ?_)))
  have S1 := P1.1
  have H := H h_1 P1
  show Pt _ _ _ 4 _ [] _ _
  exact H
theorem d260_4 {n : Nat} {X : aX} {h : aH} {P : aH → Prop} (S : wS h) (K259 : mt259 n X) (H : ((0 ≤ vw h 72 65 → P h) ∧ (vw h 72 65 < 0 → ((mL (vw h) ≠ 38 → P h) ∧ (mL (vw h) = 38 → ∀ h_9 : aH, wS h_9 → vw h_9 = up (vw h) 72 64 (w32 ((vw h 72 64) + 1)) → ((mpre (vw h_9)) ∧ ∀ (h_10 : aH), (wS h_10 ∧ mRes 5 (vw h_9) (vw h_10)) → ∀ (h_13 : aH), (wS h_13 ∧ lfr (vw h_10) (vw h_13)) → Pt n X zM260 4 [some (.ref 72)] [] h_13 (qN P))))))) : Pt (n + 1) X zM260 4 [some (.ref 72)] [] h (qN P) := by
  refine pt_1 (fun n d => r_aloadn gx260_4 rfl) ?_
  refine pt_d (pt_getI (B := 65) gx260_5 S (fun v1 h1 => ?_))
  refine pt_d (pt_if_ge gx260_8 h1 (fun e2 => ?_) (fun e2 => ?_))
  · have H := H.1 e2
    exact pt_d (pt_vret gx260_44 ⟨rfl, H⟩)
  · have H := H.2 e2
    refine pt_d (pt_1 (fun n d => r_aloadn gx260_11 rfl) ?_)
    refine pt_d (pt_virt (as := []) (r := []) gx260_12 rfl (show zmt[251]? = some zM251 from rfl) rfl rfl rfl rfl (c_251 S) (kqP (fun v3 h3 => ?_)))
    show Pt _ _ _ 15 _ [.int v3] _ _
    refine pt_d (pt_bipush gx260_15 (fun v4 h4 => ?_))
    refine pt_d (pt_icmp_ne gx260_17 h3 h4 (fun e5 => ?_) (fun e5 => ?_))
    · have H := H.1 e5
      exact pt_d (pt_vret gx260_44 ⟨rfl, H⟩)
    · have H := H.2 e5
      refine pt_d (pt_1 (fun n d => r_aloadn gx260_20 rfl) ?_)
      refine pt_d (pt_1 (fun n d => r_dup gx260_21 rfl) ?_)
      refine pt_d (pt_getI (B := 64) gx260_22 S (fun v6 h6 => ?_))
      refine pt_d (pt_iconst gx260_25 (fun v7 h7 => ?_))
      refine pt_d (pt_iadd gx260_26 h6 h7 (fun v8 h8 => ?_))
      refine pt_d (pt_putI (B := 64) gx260_27 S h8 (fun h_9 S9 e9 => ?_))
      refine pt_d (pt_1 (fun n d => r_aloadn gx260_30 rfl) ?_)
      have H := H h_9 S9 (by rw [e9])
      obtain ⟨pr10, H⟩ := H
      refine pt_d (pt_virt (as := []) (r := []) gx260_31 rfl (show zmt[259]? = some zM259 from rfl) rfl rfl rfl rfl (K259 S9 pr10) (kqN (fun h_10 P10 => ?_)))
      have S10 := P10.1
      have H := H h_10 P10
      show Pt _ _ _ 34 _ [] _ _
      refine pt_d (pt_1 (fun n d => r_aloadn gx260_34 rfl) ?_)
      refine pt_d (pt_bipush gx260_35 (fun v11 h11 => ?_))
      refine pt_d (pt_iconst gx260_37 (fun v12 h12 => ?_))
      refine pt_d (pt_virt (as := [.int v11, .int v12]) (r := []) gx260_38 rfl (show zmt[253]? = some zM253 from rfl) rfl rfl rfl rfl (c_253 S10 h11 h12) (kqN (fun h_13 P13 => ?_)))
      have S13 := P13.1
      have H := H h_13 P13
      show Pt _ _ _ 41 _ [] _ _
      refine pt_d (pt_1 (fun n d => r_goto gx260_41) ?_)
      exact H
theorem d261_0 {n : Nat} {X : aX} {h : aH} {P : aH → Prop} (S : wS h) (K260 : mt260 n X) (H : ((mpre (vw h)) ∧ ∀ (h_1 : aH), (wS h_1 ∧ mRes 6 (vw h) (vw h_1)) → Pt n X zM261 4 [some (.ref 72)] [] h_1 (qN P))) : Pt (n + 1) X zM261 0 [some (.ref 72)] [] h (qN P) := by
  refine pt_1 (fun n d => r_aloadn gx261_0 rfl) ?_
  obtain ⟨pr1, H⟩ := H
  refine pt_d (pt_virt (as := []) (r := []) gx261_1 rfl (show zmt[260]? = some zM260 from rfl) rfl rfl rfl rfl (K260 S pr1) (kqN (fun h_1 P1 => ?_)))
  have S1 := P1.1
  have H := H h_1 P1
  show Pt _ _ _ 4 _ [] _ _
  exact H
theorem d261_4 {n : Nat} {X : aX} {h : aH} {P : aH → Prop} (S : wS h) (K260 : mt260 n X) (H : ((0 ≤ vw h 72 65 → P h) ∧ (vw h 72 65 < 0 → ((mL (vw h) ≠ 124 → P h) ∧ (mL (vw h) = 124 → ∀ h_9 : aH, wS h_9 → vw h_9 = up (vw h) 72 64 (w32 ((vw h 72 64) + 1)) → ((mpre (vw h_9)) ∧ ∀ (h_10 : aH), (wS h_10 ∧ mRes 6 (vw h_9) (vw h_10)) → ∀ (h_13 : aH), (wS h_13 ∧ lfr (vw h_10) (vw h_13)) → Pt n X zM261 4 [some (.ref 72)] [] h_13 (qN P))))))) : Pt (n + 1) X zM261 4 [some (.ref 72)] [] h (qN P) := by
  refine pt_1 (fun n d => r_aloadn gx261_4 rfl) ?_
  refine pt_d (pt_getI (B := 65) gx261_5 S (fun v1 h1 => ?_))
  refine pt_d (pt_if_ge gx261_8 h1 (fun e2 => ?_) (fun e2 => ?_))
  · have H := H.1 e2
    exact pt_d (pt_vret gx261_44 ⟨rfl, H⟩)
  · have H := H.2 e2
    refine pt_d (pt_1 (fun n d => r_aloadn gx261_11 rfl) ?_)
    refine pt_d (pt_virt (as := []) (r := []) gx261_12 rfl (show zmt[251]? = some zM251 from rfl) rfl rfl rfl rfl (c_251 S) (kqP (fun v3 h3 => ?_)))
    show Pt _ _ _ 15 _ [.int v3] _ _
    refine pt_d (pt_bipush gx261_15 (fun v4 h4 => ?_))
    refine pt_d (pt_icmp_ne gx261_17 h3 h4 (fun e5 => ?_) (fun e5 => ?_))
    · have H := H.1 e5
      exact pt_d (pt_vret gx261_44 ⟨rfl, H⟩)
    · have H := H.2 e5
      refine pt_d (pt_1 (fun n d => r_aloadn gx261_20 rfl) ?_)
      refine pt_d (pt_1 (fun n d => r_dup gx261_21 rfl) ?_)
      refine pt_d (pt_getI (B := 64) gx261_22 S (fun v6 h6 => ?_))
      refine pt_d (pt_iconst gx261_25 (fun v7 h7 => ?_))
      refine pt_d (pt_iadd gx261_26 h6 h7 (fun v8 h8 => ?_))
      refine pt_d (pt_putI (B := 64) gx261_27 S h8 (fun h_9 S9 e9 => ?_))
      refine pt_d (pt_1 (fun n d => r_aloadn gx261_30 rfl) ?_)
      have H := H h_9 S9 (by rw [e9])
      obtain ⟨pr10, H⟩ := H
      refine pt_d (pt_virt (as := []) (r := []) gx261_31 rfl (show zmt[260]? = some zM260 from rfl) rfl rfl rfl rfl (K260 S9 pr10) (kqN (fun h_10 P10 => ?_)))
      have S10 := P10.1
      have H := H h_10 P10
      show Pt _ _ _ 34 _ [] _ _
      refine pt_d (pt_1 (fun n d => r_aloadn gx261_34 rfl) ?_)
      refine pt_d (pt_bipush gx261_35 (fun v11 h11 => ?_))
      refine pt_d (pt_iconst gx261_37 (fun v12 h12 => ?_))
      refine pt_d (pt_virt (as := [.int v11, .int v12]) (r := []) gx261_38 rfl (show zmt[253]? = some zM253 from rfl) rfl rfl rfl rfl (c_253 S10 h11 h12) (kqN (fun h_13 P13 => ?_)))
      have S13 := P13.1
      have H := H h_13 P13
      show Pt _ _ _ 41 _ [] _ _
      refine pt_d (pt_1 (fun n d => r_goto gx261_41) ?_)
      exact H
theorem d259_0 {n : Nat} {X : aX} {h : aH} {P : aH → Prop} (S : wS h) (K258 : mt258 n X) (H : ((mpre (vw h)) ∧ ∀ (h_1 : aH), (wS h_1 ∧ mRes 3 (vw h) (vw h_1)) → ((0 ≤ vw h_1 72 65 → P h_1) ∧ (vw h_1 72 65 < 0 → ((mL (vw h_1) = 60 → ∀ h_10 : aH, wS h_10 → vw h_10 = up (vw h_1) 72 64 (w32 ((vw h_1 72 64) + 1)) → ((mpre (vw h_10)) ∧ ∀ (h_11 : aH), (wS h_11 ∧ mRes 3 (vw h_10) (vw h_11)) → ∀ (h_13 : aH), (wS h_13 ∧ lfr (vw h_11) (vw h_13)) → P h_13)) ∧ (mL (vw h_1) ≠ 60 → ((mL (vw h_1) = 61 → ∀ h_19 : aH, wS h_19 → vw h_19 = up (vw h_1) 72 64 (w32 ((vw h_1 72 64) + 1)) → ((mpre (vw h_19)) ∧ ∀ (h_20 : aH), (wS h_20 ∧ mRes 3 (vw h_19) (vw h_20)) → ∀ (h_22 : aH), (wS h_22 ∧ lfr (vw h_20) (vw h_22)) → P h_22)) ∧ (mL (vw h_1) ≠ 61 → ((mL (vw h_1) = 62 → ∀ h_28 : aH, wS h_28 → vw h_28 = up (vw h_1) 72 64 (w32 ((vw h_1 72 64) + 1)) → ((mpre (vw h_28)) ∧ ∀ (h_29 : aH), (wS h_29 ∧ mRes 3 (vw h_28) (vw h_29)) → ∀ (h_31 : aH), (wS h_31 ∧ lfr (vw h_29) (vw h_31)) → P h_31)) ∧ (mL (vw h_1) ≠ 62 → P h_1)))))))))) : Pt (n + 1) X zM259 0 [some (.ref 72), none] [] h (qN P) := by
  refine pt_1 (fun n d => r_aloadn gx259_0 rfl) ?_
  obtain ⟨pr1, H⟩ := H
  refine pt_d (pt_virt (as := []) (r := []) gx259_1 rfl (show zmt[258]? = some zM258 from rfl) rfl rfl rfl rfl (K258 S pr1) (kqN (fun h_1 P1 => ?_)))
  have S1 := P1.1
  have H := H h_1 P1
  show Pt _ _ _ 4 _ [] _ _
  refine pt_d (pt_1 (fun n d => r_aloadn gx259_4 rfl) ?_)
  refine pt_d (pt_virt (as := []) (r := []) gx259_5 rfl (show zmt[251]? = some zM251 from rfl) rfl rfl rfl rfl (c_251 S1) (kqP (fun v2 h2 => ?_)))
  show Pt _ _ _ 8 _ [.int v2] _ _
  refine pt_d (pt_1 (fun n d => r_istoren (L' := [some (.ref 72), some (.int v2)]) gx259_8 rfl rfl) ?_)
  refine pt_d (pt_1 (fun n d => r_aloadn gx259_9 rfl) ?_)
  refine pt_d (pt_getI (B := 65) gx259_10 S1 (fun v3 h3 => ?_))
  refine pt_d (pt_if_ge gx259_13 h3 (fun e4 => ?_) (fun e4 => ?_))
  · have H := H.1 e4
    exact pt_d (pt_vret gx259_34 ⟨rfl, H⟩)
  · have H := H.2 e4
    refine pt_d (pt_1 (fun n d => r_iloadn gx259_16 rfl) ?_)
    refine pt_d (pt_bipush gx259_17 (fun v5 h5 => ?_))
    refine pt_d (pt_icmp_eq gx259_19 h2 h5 (fun e6 => ?_) (fun e6 => ?_))
    · have H := H.1 e6
      refine pt_d (pt_1 (fun n d => r_aloadn gx259_35 rfl) ?_)
      refine pt_d (pt_1 (fun n d => r_dup gx259_36 rfl) ?_)
      refine pt_d (pt_getI (B := 64) gx259_37 S1 (fun v7 h7 => ?_))
      refine pt_d (pt_iconst gx259_40 (fun v8 h8 => ?_))
      refine pt_d (pt_iadd gx259_41 h7 h8 (fun v9 h9 => ?_))
      refine pt_d (pt_putI (B := 64) gx259_42 S1 h9 (fun h_10 S10 e10 => ?_))
      refine pt_d (pt_1 (fun n d => r_aloadn gx259_45 rfl) ?_)
      have H := H h_10 S10 (by rw [e10])
      obtain ⟨pr11, H⟩ := H
      refine pt_d (pt_virt (as := []) (r := []) gx259_46 rfl (show zmt[258]? = some zM258 from rfl) rfl rfl rfl rfl (K258 S10 pr11) (kqN (fun h_11 P11 => ?_)))
      have S11 := P11.1
      have H := H h_11 P11
      show Pt _ _ _ 49 _ [] _ _
      refine pt_d (pt_1 (fun n d => r_aloadn gx259_49 rfl) ?_)
      refine pt_d (pt_1 (fun n d => r_iloadn gx259_50 rfl) ?_)
      refine pt_d (pt_iconst gx259_51 (fun v12 h12 => ?_))
      refine pt_d (pt_virt (as := [.int v2, .int v12]) (r := []) gx259_52 rfl (show zmt[253]? = some zM253 from rfl) rfl rfl rfl rfl (c_253 S11 h2 h12) (kqN (fun h_13 P13 => ?_)))
      have S13 := P13.1
      have H := H h_13 P13
      show Pt _ _ _ 55 _ [] _ _
      exact pt_d (pt_vret gx259_55 ⟨rfl, H⟩)
    · have H := H.2 e6
      refine pt_d (pt_1 (fun n d => r_iloadn gx259_22 rfl) ?_)
      refine pt_d (pt_bipush gx259_23 (fun v14 h14 => ?_))
      refine pt_d (pt_icmp_eq gx259_25 h2 h14 (fun e15 => ?_) (fun e15 => ?_))
      · have H := H.1 e15
        refine pt_d (pt_1 (fun n d => r_aloadn gx259_35 rfl) ?_)
        refine pt_d (pt_1 (fun n d => r_dup gx259_36 rfl) ?_)
        refine pt_d (pt_getI (B := 64) gx259_37 S1 (fun v16 h16 => ?_))
        refine pt_d (pt_iconst gx259_40 (fun v17 h17 => ?_))
        refine pt_d (pt_iadd gx259_41 h16 h17 (fun v18 h18 => ?_))
        refine pt_d (pt_putI (B := 64) gx259_42 S1 h18 (fun h_19 S19 e19 => ?_))
        refine pt_d (pt_1 (fun n d => r_aloadn gx259_45 rfl) ?_)
        have H := H h_19 S19 (by rw [e19])
        obtain ⟨pr20, H⟩ := H
        refine pt_d (pt_virt (as := []) (r := []) gx259_46 rfl (show zmt[258]? = some zM258 from rfl) rfl rfl rfl rfl (K258 S19 pr20) (kqN (fun h_20 P20 => ?_)))
        have S20 := P20.1
        have H := H h_20 P20
        show Pt _ _ _ 49 _ [] _ _
        refine pt_d (pt_1 (fun n d => r_aloadn gx259_49 rfl) ?_)
        refine pt_d (pt_1 (fun n d => r_iloadn gx259_50 rfl) ?_)
        refine pt_d (pt_iconst gx259_51 (fun v21 h21 => ?_))
        refine pt_d (pt_virt (as := [.int v2, .int v21]) (r := []) gx259_52 rfl (show zmt[253]? = some zM253 from rfl) rfl rfl rfl rfl (c_253 S20 h2 h21) (kqN (fun h_22 P22 => ?_)))
        have S22 := P22.1
        have H := H h_22 P22
        show Pt _ _ _ 55 _ [] _ _
        exact pt_d (pt_vret gx259_55 ⟨rfl, H⟩)
      · have H := H.2 e15
        refine pt_d (pt_1 (fun n d => r_iloadn gx259_28 rfl) ?_)
        refine pt_d (pt_bipush gx259_29 (fun v23 h23 => ?_))
        refine pt_d (pt_icmp_eq gx259_31 h2 h23 (fun e24 => ?_) (fun e24 => ?_))
        · have H := H.1 e24
          refine pt_d (pt_1 (fun n d => r_aloadn gx259_35 rfl) ?_)
          refine pt_d (pt_1 (fun n d => r_dup gx259_36 rfl) ?_)
          refine pt_d (pt_getI (B := 64) gx259_37 S1 (fun v25 h25 => ?_))
          refine pt_d (pt_iconst gx259_40 (fun v26 h26 => ?_))
          refine pt_d (pt_iadd gx259_41 h25 h26 (fun v27 h27 => ?_))
          refine pt_d (pt_putI (B := 64) gx259_42 S1 h27 (fun h_28 S28 e28 => ?_))
          refine pt_d (pt_1 (fun n d => r_aloadn gx259_45 rfl) ?_)
          have H := H h_28 S28 (by rw [e28])
          obtain ⟨pr29, H⟩ := H
          refine pt_d (pt_virt (as := []) (r := []) gx259_46 rfl (show zmt[258]? = some zM258 from rfl) rfl rfl rfl rfl (K258 S28 pr29) (kqN (fun h_29 P29 => ?_)))
          have S29 := P29.1
          have H := H h_29 P29
          show Pt _ _ _ 49 _ [] _ _
          refine pt_d (pt_1 (fun n d => r_aloadn gx259_49 rfl) ?_)
          refine pt_d (pt_1 (fun n d => r_iloadn gx259_50 rfl) ?_)
          refine pt_d (pt_iconst gx259_51 (fun v30 h30 => ?_))
          refine pt_d (pt_virt (as := [.int v2, .int v30]) (r := []) gx259_52 rfl (show zmt[253]? = some zM253 from rfl) rfl rfl rfl rfl (c_253 S29 h2 h30) (kqN (fun h_31 P31 => ?_)))
          have S31 := P31.1
          have H := H h_31 P31
          show Pt _ _ _ 55 _ [] _ _
          exact pt_d (pt_vret gx259_55 ⟨rfl, H⟩)
        · have H := H.2 e24
          exact pt_d (pt_vret gx259_34 ⟨rfl, H⟩)
theorem d256_0 {n : Nat} {X : aX} {h : aH} {P : aH → Prop} (S : wS h) (K256 : mt256 n X) (K261 : mt261 n X) (H : ∀ (y2 : Int) (h_2 : aH), (wS h_2 ∧ h_2 = h ∧ R255 (mL (vw h)) y2) → ((y2 < 0 → ((mL (vw h) = 33 → ∀ (y6 : Int) (h_6 : aH), (wS h_6 ∧ R254 (vw h_2) y6 (vw h_6)) → ((y6 ≠ 0 → ((mpre (vw h_6)) ∧ ∀ (h_8 : aH), (wS h_8 ∧ mRes 0 (vw h_6) (vw h_8)) → ((mL (vw h) ≠ 33 → ∀ h_12 : aH, wS h_12 → vw h_12 = up (vw h_8) 72 66 (w32 ((vw h_8 72 66) - 1)) → ∀ (h_17 : aH), (wS h_17 ∧ lfr (vw h_12) (vw h_17)) → P h_17) ∧ (mL (vw h) = 33 → ∀ h_12 : aH, wS h_12 → vw h_12 = up (vw h_8) 72 66 (w32 ((vw h_8 72 66) - 1)) → ∀ (h_20 : aH), (wS h_20 ∧ lfr (vw h_12) (vw h_20)) → P h_20)))) ∧ (y6 = 0 → P h_6))) ∧ (mL (vw h) ≠ 33 → ((mL (vw h) ≠ 45 → ((mL (vw h) ≠ 40 → (∀ (w1 : Int32) (w2 : Int32) (w3 : Int32), w1.toInt = mL (vw h) → w2.toInt = 0 → w3.toInt = 0 → Pt n X zM256 148 [some (.ref 72), some (.int w1), some (.int w2), some (.int w3)] [] h_2 (qN P))) ∧ (mL (vw h) = 40 → ∀ (y27 : Int) (h_27 : aH), (wS h_27 ∧ R254 (vw h_2) y27 (vw h_27)) → ((y27 ≠ 0 → ((mpre (vw h_27)) ∧ ∀ (h_29 : aH), (wS h_29 ∧ mRes 8 (vw h_27) (vw h_29)) → ((vw h_29 72 65 < 0 → ((mL (vw h_29) = 41 → ∀ h_42 : aH, wS h_42 → vw h_42 = up (up (vw h_29) 72 66 (w32 ((vw h_29 72 66) - 1))) 72 64 (w32 ((vw h_29 72 64) + 1)) → P h_42) ∧ (mL (vw h_29) ≠ 41 → ∀ (h_43 : aH), (wS h_43 ∧ R252 (vw h_29) (vw h_43)) → P h_43))) ∧ (0 ≤ vw h_29 72 65 → P h_29)))) ∧ (y27 = 0 → P h_27))))) ∧ (mL (vw h) = 45 → ∀ (y44 : Int) (h_44 : aH), (wS h_44 ∧ R254 (vw h_2) y44 (vw h_44)) → ((y44 ≠ 0 → ((mpre (vw h_44)) ∧ ∀ (h_46 : aH), (wS h_46 ∧ mRes 0 (vw h_44) (vw h_46)) → ((mL (vw h) ≠ 33 → ∀ h_50 : aH, wS h_50 → vw h_50 = up (vw h_46) 72 66 (w32 ((vw h_46 72 66) - 1)) → ∀ (h_55 : aH), (wS h_55 ∧ lfr (vw h_50) (vw h_55)) → P h_55) ∧ (mL (vw h) = 33 → ∀ h_50 : aH, wS h_50 → vw h_50 = up (vw h_46) 72 66 (w32 ((vw h_46 72 66) - 1)) → ∀ (h_58 : aH), (wS h_58 ∧ lfr (vw h_50) (vw h_58)) → P h_58)))) ∧ (y44 = 0 → P h_44))))))) ∧ (0 ≤ y2 → ∀ (y60 : Int) (h_60 : aH), (wS h_60 ∧ h_60 = h_2 ∧ R255 (mL (vw h)) y60) → ∀ (h_61 : aH), (wS h_61 ∧ lfr (vw h_60) (vw h_61)) → ∀ h_65 : aH, wS h_65 → vw h_65 = up (vw h_61) 72 64 (w32 ((vw h_61 72 64) + 1)) → P h_65))) : Pt (n + 1) X zM256 0 [some (.ref 72), none, none, none] [] h (qN P) := by
  refine pt_1 (fun n d => r_aloadn gx256_0 rfl) ?_
  refine pt_d (pt_virt (as := []) (r := []) gx256_1 rfl (show zmt[251]? = some zM251 from rfl) rfl rfl rfl rfl (c_251 S) (kqP (fun v1 h1 => ?_)))
  show Pt _ _ _ 4 _ [.int v1] _ _
  refine pt_d (pt_1 (fun n d => r_istoren (L' := [some (.ref 72), some (.int v1), none, none]) gx256_4 rfl rfl) ?_)
  refine pt_d (pt_1 (fun n d => r_iloadn gx256_5 rfl) ?_)
  refine pt_d (pt_stat (as := [.int v1]) (r := []) gx256_6 rfl (show zmt[255]? = some zM255 from rfl) rfl rfl rfl rfl (c_255 S h1) (kqI (fun v2 y2 h_2 h2 P2 => ?_)))
  have S2 := P2.1
  have H := H y2 h_2 P2
  show Pt _ _ _ 9 _ [.int v2] _ _
  refine pt_d (pt_if_lt gx256_9 h2 (fun e3 => ?_) (fun e3 => ?_))
  · have H := H.1 e3
    refine pt_d (pt_1 (fun n d => r_iloadn gx256_32 rfl) ?_)
    refine pt_d (pt_bipush gx256_33 (fun v4 h4 => ?_))
    refine pt_d (pt_icmp_eq gx256_35 h1 h4 (fun e5 => ?_) (fun e5 => ?_))
    · have H := H.1 e5
      refine pt_d (pt_1 (fun n d => r_aloadn gx256_44 rfl) ?_)
      refine pt_d (pt_virt (as := []) (r := []) gx256_45 rfl (show zmt[254]? = some zM254 from rfl) rfl rfl rfl rfl (c_254 S2) (kqI (fun v6 y6 h_6 h6 P6 => ?_)))
      have S6 := P6.1
      have H := H y6 h_6 P6
      show Pt _ _ _ 48 _ [.int v6] _ _
      refine pt_d (pt_if_ne gx256_48 h6 (fun e7 => ?_) (fun e7 => ?_))
      · have H := H.1 e7
        refine pt_d (pt_1 (fun n d => r_aloadn gx256_52 rfl) ?_)
        obtain ⟨pr8, H⟩ := H
        refine pt_d (pt_virt (as := []) (r := []) gx256_53 rfl (show zmt[256]? = some zM256 from rfl) rfl rfl rfl rfl (K256 S6 pr8) (kqN (fun h_8 P8 => ?_)))
        have S8 := P8.1
        have H := H h_8 P8
        show Pt _ _ _ 56 _ [] _ _
        refine pt_d (pt_1 (fun n d => r_aloadn gx256_56 rfl) ?_)
        refine pt_d (pt_1 (fun n d => r_dup gx256_57 rfl) ?_)
        refine pt_d (pt_getI (B := 66) gx256_58 S8 (fun v9 h9 => ?_))
        refine pt_d (pt_iconst gx256_61 (fun v10 h10 => ?_))
        refine pt_d (pt_isub gx256_62 h9 h10 (fun v11 h11 => ?_))
        refine pt_d (pt_putI (B := 66) gx256_63 S8 h11 (fun h_12 S12 e12 => ?_))
        refine pt_d (pt_1 (fun n d => r_aloadn gx256_66 rfl) ?_)
        refine pt_d (pt_1 (fun n d => r_iloadn gx256_67 rfl) ?_)
        refine pt_d (pt_bipush gx256_68 (fun v13 h13 => ?_))
        refine pt_d (pt_icmp_ne gx256_70 h1 h13 (fun e14 => ?_) (fun e14 => ?_))
        · have H := H.1 e14
          refine pt_d (pt_iconst gx256_77 (fun v15 h15 => ?_))
          refine pt_d (pt_iconst gx256_78 (fun v16 h16 => ?_))
          have H := H h_12 S12 (by rw [e12])
          refine pt_d (pt_virt (as := [.int v15, .int v16]) (r := []) gx256_79 rfl (show zmt[253]? = some zM253 from rfl) rfl rfl rfl rfl (c_253 S12 h15 h16) (kqN (fun h_17 P17 => ?_)))
          have S17 := P17.1
          have H := H h_17 P17
          show Pt _ _ _ 82 _ [] _ _
          exact pt_d (pt_vret gx256_82 ⟨rfl, H⟩)
        · have H := H.2 e14
          refine pt_d (pt_iconst gx256_73 (fun v18 h18 => ?_))
          refine pt_d (pt_1 (fun n d => r_goto gx256_74) ?_)
          refine pt_d (pt_iconst gx256_78 (fun v19 h19 => ?_))
          have H := H h_12 S12 (by rw [e12])
          refine pt_d (pt_virt (as := [.int v18, .int v19]) (r := []) gx256_79 rfl (show zmt[253]? = some zM253 from rfl) rfl rfl rfl rfl (c_253 S12 h18 h19) (kqN (fun h_20 P20 => ?_)))
          have S20 := P20.1
          have H := H h_20 P20
          show Pt _ _ _ 82 _ [] _ _
          exact pt_d (pt_vret gx256_82 ⟨rfl, H⟩)
      · have H := H.2 e7
        exact pt_d (pt_vret gx256_51 ⟨rfl, H⟩)
    · have H := H.2 e5
      refine pt_d (pt_1 (fun n d => r_iloadn gx256_38 rfl) ?_)
      refine pt_d (pt_bipush gx256_39 (fun v21 h21 => ?_))
      refine pt_d (pt_icmp_ne gx256_41 h1 h21 (fun e22 => ?_) (fun e22 => ?_))
      · have H := H.1 e22
        refine pt_d (pt_1 (fun n d => r_iloadn gx256_83 rfl) ?_)
        refine pt_d (pt_bipush gx256_84 (fun v23 h23 => ?_))
        refine pt_d (pt_icmp_ne gx256_86 h1 h23 (fun e24 => ?_) (fun e24 => ?_))
        · have H := H.1 e24
          refine pt_d (pt_iconst gx256_144 (fun v25 h25 => ?_))
          refine pt_d (pt_1 (fun n d => r_istoren (L' := [some (.ref 72), some (.int v1), some (.int v25), none]) gx256_145 rfl rfl) ?_)
          refine pt_d (pt_iconst gx256_146 (fun v26 h26 => ?_))
          refine pt_d (pt_1 (fun n d => r_istoren (L' := [some (.ref 72), some (.int v1), some (.int v25), some (.int v26)]) gx256_147 rfl rfl) ?_)
          exact H v1 v25 v26 h1 h25 h26
        · have H := H.2 e24
          refine pt_d (pt_1 (fun n d => r_aloadn gx256_89 rfl) ?_)
          refine pt_d (pt_virt (as := []) (r := []) gx256_90 rfl (show zmt[254]? = some zM254 from rfl) rfl rfl rfl rfl (c_254 S2) (kqI (fun v27 y27 h_27 h27 P27 => ?_)))
          have S27 := P27.1
          have H := H y27 h_27 P27
          show Pt _ _ _ 93 _ [.int v27] _ _
          refine pt_d (pt_if_ne gx256_93 h27 (fun e28 => ?_) (fun e28 => ?_))
          · have H := H.1 e28
            refine pt_d (pt_1 (fun n d => r_aloadn gx256_97 rfl) ?_)
            obtain ⟨pr29, H⟩ := H
            refine pt_d (pt_virt (as := []) (r := []) gx256_98 rfl (show zmt[261]? = some zM261 from rfl) rfl rfl rfl rfl (K261 S27 pr29) (kqN (fun h_29 P29 => ?_)))
            have S29 := P29.1
            have H := H h_29 P29
            show Pt _ _ _ 101 _ [] _ _
            refine pt_d (pt_1 (fun n d => r_aloadn gx256_101 rfl) ?_)
            refine pt_d (pt_getI (B := 65) gx256_102 S29 (fun v30 h30 => ?_))
            refine pt_d (pt_if_lt gx256_105 h30 (fun e31 => ?_) (fun e31 => ?_))
            · have H := H.1 e31
              refine pt_d (pt_1 (fun n d => r_aloadn gx256_109 rfl) ?_)
              refine pt_d (pt_virt (as := []) (r := []) gx256_110 rfl (show zmt[251]? = some zM251 from rfl) rfl rfl rfl rfl (c_251 S29) (kqP (fun v32 h32 => ?_)))
              show Pt _ _ _ 113 _ [.int v32] _ _
              refine pt_d (pt_bipush gx256_113 (fun v33 h33 => ?_))
              refine pt_d (pt_icmp_eq gx256_115 h32 h33 (fun e34 => ?_) (fun e34 => ?_))
              · have H := H.1 e34
                refine pt_d (pt_1 (fun n d => r_aloadn gx256_123 rfl) ?_)
                refine pt_d (pt_1 (fun n d => r_dup gx256_124 rfl) ?_)
                refine pt_d (pt_getI (B := 66) gx256_125 S29 (fun v35 h35 => ?_))
                refine pt_d (pt_iconst gx256_128 (fun v36 h36 => ?_))
                refine pt_d (pt_isub gx256_129 h35 h36 (fun v37 h37 => ?_))
                refine pt_d (pt_putI (B := 66) gx256_130 S29 h37 (fun h_38 S38 e38 => ?_))
                refine pt_d (pt_1 (fun n d => r_aloadn gx256_133 rfl) ?_)
                refine pt_d (pt_1 (fun n d => r_dup gx256_134 rfl) ?_)
                refine pt_d (pt_getI (B := 64) gx256_135 S38 (fun v39 h39 => ?_))
                have h39 : v39.toInt = vw h_29 72 64 := by rw [h39, e38, up_j (by decide)]
                refine pt_d (pt_iconst gx256_138 (fun v40 h40 => ?_))
                refine pt_d (pt_iadd gx256_139 h39 h40 (fun v41 h41 => ?_))
                refine pt_d (pt_putI (B := 64) gx256_140 S38 h41 (fun h_42 S42 e42 => ?_))
                have H := H h_42 S42 (by rw [e42, e38])
                exact pt_d (pt_vret gx256_143 ⟨rfl, H⟩)
              · have H := H.2 e34
                refine pt_d (pt_1 (fun n d => r_aloadn gx256_118 rfl) ?_)
                refine pt_d (pt_virt (as := []) (r := []) gx256_119 rfl (show zmt[252]? = some zM252 from rfl) rfl rfl rfl rfl (c_252 S29) (kqN (fun h_43 P43 => ?_)))
                have S43 := P43.1
                have H := H h_43 P43
                show Pt _ _ _ 122 _ [] _ _
                exact pt_d (pt_vret gx256_122 ⟨rfl, H⟩)
            · have H := H.2 e31
              exact pt_d (pt_vret gx256_108 ⟨rfl, H⟩)
          · have H := H.2 e28
            exact pt_d (pt_vret gx256_96 ⟨rfl, H⟩)
      · have H := H.2 e22
        refine pt_d (pt_1 (fun n d => r_aloadn gx256_44 rfl) ?_)
        refine pt_d (pt_virt (as := []) (r := []) gx256_45 rfl (show zmt[254]? = some zM254 from rfl) rfl rfl rfl rfl (c_254 S2) (kqI (fun v44 y44 h_44 h44 P44 => ?_)))
        have S44 := P44.1
        have H := H y44 h_44 P44
        show Pt _ _ _ 48 _ [.int v44] _ _
        refine pt_d (pt_if_ne gx256_48 h44 (fun e45 => ?_) (fun e45 => ?_))
        · have H := H.1 e45
          refine pt_d (pt_1 (fun n d => r_aloadn gx256_52 rfl) ?_)
          obtain ⟨pr46, H⟩ := H
          refine pt_d (pt_virt (as := []) (r := []) gx256_53 rfl (show zmt[256]? = some zM256 from rfl) rfl rfl rfl rfl (K256 S44 pr46) (kqN (fun h_46 P46 => ?_)))
          have S46 := P46.1
          have H := H h_46 P46
          show Pt _ _ _ 56 _ [] _ _
          refine pt_d (pt_1 (fun n d => r_aloadn gx256_56 rfl) ?_)
          refine pt_d (pt_1 (fun n d => r_dup gx256_57 rfl) ?_)
          refine pt_d (pt_getI (B := 66) gx256_58 S46 (fun v47 h47 => ?_))
          refine pt_d (pt_iconst gx256_61 (fun v48 h48 => ?_))
          refine pt_d (pt_isub gx256_62 h47 h48 (fun v49 h49 => ?_))
          refine pt_d (pt_putI (B := 66) gx256_63 S46 h49 (fun h_50 S50 e50 => ?_))
          refine pt_d (pt_1 (fun n d => r_aloadn gx256_66 rfl) ?_)
          refine pt_d (pt_1 (fun n d => r_iloadn gx256_67 rfl) ?_)
          refine pt_d (pt_bipush gx256_68 (fun v51 h51 => ?_))
          refine pt_d (pt_icmp_ne gx256_70 h1 h51 (fun e52 => ?_) (fun e52 => ?_))
          · have H := H.1 e52
            refine pt_d (pt_iconst gx256_77 (fun v53 h53 => ?_))
            refine pt_d (pt_iconst gx256_78 (fun v54 h54 => ?_))
            have H := H h_50 S50 (by rw [e50])
            refine pt_d (pt_virt (as := [.int v53, .int v54]) (r := []) gx256_79 rfl (show zmt[253]? = some zM253 from rfl) rfl rfl rfl rfl (c_253 S50 h53 h54) (kqN (fun h_55 P55 => ?_)))
            have S55 := P55.1
            have H := H h_55 P55
            show Pt _ _ _ 82 _ [] _ _
            exact pt_d (pt_vret gx256_82 ⟨rfl, H⟩)
          · have H := H.2 e52
            refine pt_d (pt_iconst gx256_73 (fun v56 h56 => ?_))
            refine pt_d (pt_1 (fun n d => r_goto gx256_74) ?_)
            refine pt_d (pt_iconst gx256_78 (fun v57 h57 => ?_))
            have H := H h_50 S50 (by rw [e50])
            refine pt_d (pt_virt (as := [.int v56, .int v57]) (r := []) gx256_79 rfl (show zmt[253]? = some zM253 from rfl) rfl rfl rfl rfl (c_253 S50 h56 h57) (kqN (fun h_58 P58 => ?_)))
            have S58 := P58.1
            have H := H h_58 P58
            show Pt _ _ _ 82 _ [] _ _
            exact pt_d (pt_vret gx256_82 ⟨rfl, H⟩)
        · have H := H.2 e45
          exact pt_d (pt_vret gx256_51 ⟨rfl, H⟩)
  · have H := H.2 e3
    refine pt_d (pt_1 (fun n d => r_aloadn gx256_12 rfl) ?_)
    refine pt_d (pt_iconst gx256_13 (fun v59 h59 => ?_))
    refine pt_d (pt_1 (fun n d => r_iloadn gx256_14 rfl) ?_)
    refine pt_d (pt_stat (as := [.int v1]) (r := [.int v59, .ref 72]) gx256_15 rfl (show zmt[255]? = some zM255 from rfl) rfl rfl rfl rfl (c_255 S2 h1) (kqI (fun v60 y60 h_60 h60 P60 => ?_)))
    have S60 := P60.1
    have H := H y60 h_60 P60
    show Pt _ _ _ 18 _ [.int v60, .int v59, .ref 72] _ _
    refine pt_d (pt_virt (as := [.int v59, .int v60]) (r := []) gx256_18 rfl (show zmt[253]? = some zM253 from rfl) rfl rfl rfl rfl (c_253 S60 h59 h60) (kqN (fun h_61 P61 => ?_)))
    have S61 := P61.1
    have H := H h_61 P61
    show Pt _ _ _ 21 _ [] _ _
    refine pt_d (pt_1 (fun n d => r_aloadn gx256_21 rfl) ?_)
    refine pt_d (pt_1 (fun n d => r_dup gx256_22 rfl) ?_)
    refine pt_d (pt_getI (B := 64) gx256_23 S61 (fun v62 h62 => ?_))
    refine pt_d (pt_iconst gx256_26 (fun v63 h63 => ?_))
    refine pt_d (pt_iadd gx256_27 h62 h63 (fun v64 h64 => ?_))
    refine pt_d (pt_putI (B := 64) gx256_28 S61 h64 (fun h_65 S65 e65 => ?_))
    have H := H h_65 S65 (by rw [e65])
    exact pt_d (pt_vret gx256_31 ⟨rfl, H⟩)
theorem d256_148 {n : Nat} {X : aX} {h : aH} {P : aH → Prop} {x1 x2 x3 : Int32} {a1 a2 a3 : Int} (S : wS h) (z1 : x1.toInt = a1) (z2 : x2.toInt = a2) (z3 : x3.toInt = a3) (H : ((6 ≤ a2 → ((a2 = 0 → ∀ (h_4 : aH), (wS h_4 ∧ R252 (vw h) (vw h_4)) → P h_4) ∧ (a2 ≠ 0 → ((¬ (48 ≤ (mL (vw h)) ∧ (mL (vw h)) ≤ 57) → ∀ (h_11 : aH), (wS h_11 ∧ lfr (vw h) (vw h_11)) → P h_11) ∧ ((48 ≤ (mL (vw h)) ∧ (mL (vw h)) ≤ 57) → ∀ (h_12 : aH), (wS h_12 ∧ R252 (vw h) (vw h_12)) → P h_12))))) ∧ (a2 < 6 → ((¬ (48 ≤ (mL (vw h)) ∧ (mL (vw h)) ≤ 57) → ((a2 = 0 → ∀ (h_19 : aH), (wS h_19 ∧ R252 (vw h) (vw h_19)) → P h_19) ∧ (a2 ≠ 0 → ((¬ (48 ≤ (mL (vw h)) ∧ (mL (vw h)) ≤ 57) → ∀ (h_26 : aH), (wS h_26 ∧ lfr (vw h) (vw h_26)) → P h_26) ∧ ((48 ≤ (mL (vw h)) ∧ (mL (vw h)) ≤ 57) → ∀ (h_27 : aH), (wS h_27 ∧ R252 (vw h) (vw h_27)) → P h_27))))) ∧ ((48 ≤ (mL (vw h)) ∧ (mL (vw h)) ≤ 57) → ∀ h_38 : aH, wS h_38 → vw h_38 = up (vw h) 72 64 (w32 ((vw h 72 64) + 1)) → (∀ (w2 : Int32) (w3 : Int32), w2.toInt = w32 (a2 + 1) → w3.toInt = w32 ((w32 ((w32 (10 * a3)) + (mL (vw h)))) - 48) → Pt n X zM256 148 [some (.ref 72), some (.int x1), some (.int w2), some (.int w3)] [] h_38 (qN P))))))) : Pt (n + 1) X zM256 148 [some (.ref 72), some (.int x1), some (.int x2), some (.int x3)] [] h (qN P) := by
  refine pt_1 (fun n d => r_iloadn gx256_148 rfl) ?_
  refine pt_d (pt_bipush gx256_149 (fun v1 h1 => ?_))
  refine pt_d (pt_icmp_ge gx256_151 z2 h1 (fun e2 => ?_) (fun e2 => ?_))
  · have H := H.1 e2
    refine pt_d (pt_1 (fun n d => r_iloadn gx256_197 rfl) ?_)
    refine pt_d (pt_if_eq gx256_198 z2 (fun e3 => ?_) (fun e3 => ?_))
    · have H := H.1 e3
      refine pt_d (pt_1 (fun n d => r_aloadn gx256_215 rfl) ?_)
      refine pt_d (pt_virt (as := []) (r := []) gx256_216 rfl (show zmt[252]? = some zM252 from rfl) rfl rfl rfl rfl (c_252 S) (kqN (fun h_4 P4 => ?_)))
      have S4 := P4.1
      have H := H h_4 P4
      show Pt _ _ _ 219 _ [] _ _
      refine pt_d (pt_1 (fun n d => r_goto gx256_219) ?_)
      exact pt_d (pt_vret gx256_228 ⟨rfl, H⟩)
    · have H := H.2 e3
      refine pt_d (pt_1 (fun n d => r_aloadn gx256_201 rfl) ?_)
      refine pt_d (pt_virt (as := []) (r := []) gx256_202 rfl (show zmt[251]? = some zM251 from rfl) rfl rfl rfl rfl (c_251 S) (kqP (fun v5 h5 => ?_)))
      show Pt _ _ _ 205 _ [.int v5] _ _
      refine pt_d (pt_bipush gx256_205 (fun v6 h6 => ?_))
      refine pt_d (pt_bipush gx256_207 (fun v7 h7 => ?_))
      refine pt_d (pt_stat (as := [.int v5, .int v6, .int v7]) (r := []) gx256_209 rfl (show zmt[196]? = some zM196 from rfl) rfl rfl rfl rfl (c_196 S h5 h6 h7) (kqP (fun v8 h8 => ?_)))
      show Pt _ _ _ 212 _ [.int v8] _ _
      refine pt_d (pt_ifB_eq gx256_212 h8 (fun e9 => ?_) (fun e9 => ?_))
      · have H := H.1 e9
        refine pt_d (pt_1 (fun n d => r_aloadn gx256_222 rfl) ?_)
        refine pt_d (pt_iconst gx256_223 (fun v10 h10 => ?_))
        refine pt_d (pt_1 (fun n d => r_iloadn gx256_224 rfl) ?_)
        refine pt_d (pt_virt (as := [.int v10, .int x3]) (r := []) gx256_225 rfl (show zmt[253]? = some zM253 from rfl) rfl rfl rfl rfl (c_253 S h10 z3) (kqN (fun h_11 P11 => ?_)))
        have S11 := P11.1
        have H := H h_11 P11
        show Pt _ _ _ 228 _ [] _ _
        exact pt_d (pt_vret gx256_228 ⟨rfl, H⟩)
      · have H := H.2 e9
        refine pt_d (pt_1 (fun n d => r_aloadn gx256_215 rfl) ?_)
        refine pt_d (pt_virt (as := []) (r := []) gx256_216 rfl (show zmt[252]? = some zM252 from rfl) rfl rfl rfl rfl (c_252 S) (kqN (fun h_12 P12 => ?_)))
        have S12 := P12.1
        have H := H h_12 P12
        show Pt _ _ _ 219 _ [] _ _
        refine pt_d (pt_1 (fun n d => r_goto gx256_219) ?_)
        exact pt_d (pt_vret gx256_228 ⟨rfl, H⟩)
  · have H := H.2 e2
    refine pt_d (pt_1 (fun n d => r_aloadn gx256_154 rfl) ?_)
    refine pt_d (pt_virt (as := []) (r := []) gx256_155 rfl (show zmt[251]? = some zM251 from rfl) rfl rfl rfl rfl (c_251 S) (kqP (fun v13 h13 => ?_)))
    show Pt _ _ _ 158 _ [.int v13] _ _
    refine pt_d (pt_bipush gx256_158 (fun v14 h14 => ?_))
    refine pt_d (pt_bipush gx256_160 (fun v15 h15 => ?_))
    refine pt_d (pt_stat (as := [.int v13, .int v14, .int v15]) (r := []) gx256_162 rfl (show zmt[196]? = some zM196 from rfl) rfl rfl rfl rfl (c_196 S h13 h14 h15) (kqP (fun v16 h16 => ?_)))
    show Pt _ _ _ 165 _ [.int v16] _ _
    refine pt_d (pt_ifB_eq gx256_165 h16 (fun e17 => ?_) (fun e17 => ?_))
    · have H := H.1 e17
      refine pt_d (pt_1 (fun n d => r_iloadn gx256_197 rfl) ?_)
      refine pt_d (pt_if_eq gx256_198 z2 (fun e18 => ?_) (fun e18 => ?_))
      · have H := H.1 e18
        refine pt_d (pt_1 (fun n d => r_aloadn gx256_215 rfl) ?_)
        refine pt_d (pt_virt (as := []) (r := []) gx256_216 rfl (show zmt[252]? = some zM252 from rfl) rfl rfl rfl rfl (c_252 S) (kqN (fun h_19 P19 => ?_)))
        have S19 := P19.1
        have H := H h_19 P19
        show Pt _ _ _ 219 _ [] _ _
        refine pt_d (pt_1 (fun n d => r_goto gx256_219) ?_)
        exact pt_d (pt_vret gx256_228 ⟨rfl, H⟩)
      · have H := H.2 e18
        refine pt_d (pt_1 (fun n d => r_aloadn gx256_201 rfl) ?_)
        refine pt_d (pt_virt (as := []) (r := []) gx256_202 rfl (show zmt[251]? = some zM251 from rfl) rfl rfl rfl rfl (c_251 S) (kqP (fun v20 h20 => ?_)))
        show Pt _ _ _ 205 _ [.int v20] _ _
        refine pt_d (pt_bipush gx256_205 (fun v21 h21 => ?_))
        refine pt_d (pt_bipush gx256_207 (fun v22 h22 => ?_))
        refine pt_d (pt_stat (as := [.int v20, .int v21, .int v22]) (r := []) gx256_209 rfl (show zmt[196]? = some zM196 from rfl) rfl rfl rfl rfl (c_196 S h20 h21 h22) (kqP (fun v23 h23 => ?_)))
        show Pt _ _ _ 212 _ [.int v23] _ _
        refine pt_d (pt_ifB_eq gx256_212 h23 (fun e24 => ?_) (fun e24 => ?_))
        · have H := H.1 e24
          refine pt_d (pt_1 (fun n d => r_aloadn gx256_222 rfl) ?_)
          refine pt_d (pt_iconst gx256_223 (fun v25 h25 => ?_))
          refine pt_d (pt_1 (fun n d => r_iloadn gx256_224 rfl) ?_)
          refine pt_d (pt_virt (as := [.int v25, .int x3]) (r := []) gx256_225 rfl (show zmt[253]? = some zM253 from rfl) rfl rfl rfl rfl (c_253 S h25 z3) (kqN (fun h_26 P26 => ?_)))
          have S26 := P26.1
          have H := H h_26 P26
          show Pt _ _ _ 228 _ [] _ _
          exact pt_d (pt_vret gx256_228 ⟨rfl, H⟩)
        · have H := H.2 e24
          refine pt_d (pt_1 (fun n d => r_aloadn gx256_215 rfl) ?_)
          refine pt_d (pt_virt (as := []) (r := []) gx256_216 rfl (show zmt[252]? = some zM252 from rfl) rfl rfl rfl rfl (c_252 S) (kqN (fun h_27 P27 => ?_)))
          have S27 := P27.1
          have H := H h_27 P27
          show Pt _ _ _ 219 _ [] _ _
          refine pt_d (pt_1 (fun n d => r_goto gx256_219) ?_)
          exact pt_d (pt_vret gx256_228 ⟨rfl, H⟩)
    · have H := H.2 e17
      refine pt_d (pt_bipush gx256_168 (fun v28 h28 => ?_))
      refine pt_d (pt_1 (fun n d => r_iloadn gx256_170 rfl) ?_)
      refine pt_d (pt_imul gx256_171 h28 z3 (fun v29 h29 => ?_))
      refine pt_d (pt_1 (fun n d => r_aloadn gx256_172 rfl) ?_)
      refine pt_d (pt_virt (as := []) (r := [.int v29]) gx256_173 rfl (show zmt[251]? = some zM251 from rfl) rfl rfl rfl rfl (c_251 S) (kqP (fun v30 h30 => ?_)))
      show Pt _ _ _ 176 _ [.int v30, .int v29] _ _
      refine pt_d (pt_iadd gx256_176 h29 h30 (fun v31 h31 => ?_))
      refine pt_d (pt_bipush gx256_177 (fun v32 h32 => ?_))
      refine pt_d (pt_isub gx256_179 h31 h32 (fun v33 h33 => ?_))
      refine pt_d (pt_1 (fun n d => r_istoren (L' := [some (.ref 72), some (.int x1), some (.int x2), some (.int v33)]) gx256_180 rfl rfl) ?_)
      refine pt_d (pt_iinc (c := 1) gx256_181 rfl z2 (fun v34 h34 => ?_))
      show Pt _ _ _ _ [some (.ref 72), some (.int x1), some (.int v34), some (.int v33)] [] _ _
      refine pt_d (pt_1 (fun n d => r_aloadn gx256_184 rfl) ?_)
      refine pt_d (pt_1 (fun n d => r_dup gx256_185 rfl) ?_)
      refine pt_d (pt_getI (B := 64) gx256_186 S (fun v35 h35 => ?_))
      refine pt_d (pt_iconst gx256_189 (fun v36 h36 => ?_))
      refine pt_d (pt_iadd gx256_190 h35 h36 (fun v37 h37 => ?_))
      refine pt_d (pt_putI (B := 64) gx256_191 S h37 (fun h_38 S38 e38 => ?_))
      refine pt_d (pt_1 (fun n d => r_goto gx256_194) ?_)
      have H := H h_38 S38 (by rw [e38])
      exact H v34 v33 h34 h33
theorem e_257 {n : Nat} {X : aX} (K : mt256 n X) (KL : ml257 n X) : mt257 (n + 1) X := by
  intro h S hp
  refine d257_0 S K ⟨hp, fun h1 k1 u1 => ?_⟩
  refine pt_q (KL k1.1 (mRes_p hp k1.2)) ?_
  rintro v h' ⟨ev, p1, p2⟩
  exact ⟨ev, p1, m_seq gsq1 hp k1.2 p2⟩
theorem f_257 {n : Nat} {X : aX} (K : mt256 n X) (KL : ml257 n X) : ml257 (n + 1) X := by
  intro h u1 S H
  have go : ∀ (c : Int) (g : aH), 0 ≤ c → opB 2 c = true → vw h 72 65 < 0 → mL (vw h) = c → vw g = up (vw h) 72 64 (w32 (vw h 72 64 + 1)) → mpre (vw g) ∧ ∀ h1 : aH, (wS h1 ∧ mRes 0 (vw g) (vw h1)) → ∀ h2 : aH, (wS h2 ∧ lfr (vw h1) (vw h2)) → ∀ (u1 : Option Value), Pt n X zM257 4 [some (.ref 72), u1] [] h2 (qN (fun h' => wS h' ∧ mLo 2 (vw h) (vw h'))) := by
    intro c g c0 ho hf hc eg
    have k2 := (m_here H hf c0 hc eg).2.1
    refine ⟨k2, fun h1 k1 h2 l u1 => ?_⟩
    refine pt_q (KL l.1 (mRes_p k2 (mRes_y k1.2 l.2))) ?_
    rintro v h' ⟨ev, p1, p2⟩
    exact ⟨ev, p1, m_step glp2 H hf c0 hc ho eg k1.2 l.2 p2⟩
  exact d257_4 S K ⟨fun w => ⟨S, ⟨fun z => by omega, fun _ => ⟨mfr_r _, rfl, rfl⟩⟩⟩, fun hf => ⟨fun e0 g S2 eg => go 42 g (by decide) rfl hf e0 eg, fun n0 => ⟨fun e1 g S2 eg => go 47 g (by decide) rfl hf e1 eg, fun n1 => ⟨fun n2 => ⟨S, m_out (fun _ _ _ => lp_e glp2) H (fun hf => by rw [← mL_T H.2.2.1.1]; show (((_ == 42 || _ == 47) || _ == 37)) = false; rw [beq_false_of_ne n0, beq_false_of_ne n1, beq_false_of_ne n2]; rfl)⟩, fun e2 g S2 eg => go 37 g (by decide) rfl hf e2 eg⟩⟩⟩⟩
theorem e_258 {n : Nat} {X : aX} (K : mt257 n X) (KL : ml258 n X) : mt258 (n + 1) X := by
  intro h S hp
  refine d258_0 S K ⟨hp, fun h1 k1 u1 => ?_⟩
  refine pt_q (KL k1.1 (mRes_p hp k1.2)) ?_
  rintro v h' ⟨ev, p1, p2⟩
  exact ⟨ev, p1, m_seq gsq3 hp k1.2 p2⟩
theorem f_258 {n : Nat} {X : aX} (K : mt257 n X) (KL : ml258 n X) : ml258 (n + 1) X := by
  intro h u1 S H
  have go : ∀ (c : Int) (g : aH), 0 ≤ c → opB 4 c = true → vw h 72 65 < 0 → mL (vw h) = c → vw g = up (vw h) 72 64 (w32 (vw h 72 64 + 1)) → mpre (vw g) ∧ ∀ h1 : aH, (wS h1 ∧ mRes 1 (vw g) (vw h1)) → ∀ h2 : aH, (wS h2 ∧ lfr (vw h1) (vw h2)) → ∀ (u1 : Option Value), Pt n X zM258 4 [some (.ref 72), u1] [] h2 (qN (fun h' => wS h' ∧ mLo 4 (vw h) (vw h'))) := by
    intro c g c0 ho hf hc eg
    have k2 := (m_here H hf c0 hc eg).2.1
    refine ⟨k2, fun h1 k1 h2 l u1 => ?_⟩
    refine pt_q (KL l.1 (mRes_p k2 (mRes_y k1.2 l.2))) ?_
    rintro v h' ⟨ev, p1, p2⟩
    exact ⟨ev, p1, m_step glp4 H hf c0 hc ho eg k1.2 l.2 p2⟩
  exact d258_4 S K ⟨fun w => ⟨S, ⟨fun z => by omega, fun _ => ⟨mfr_r _, rfl, rfl⟩⟩⟩, fun hf => ⟨fun e0 g S2 eg => go 43 g (by decide) rfl hf e0 eg, fun n0 => ⟨fun n1 => ⟨S, m_out (fun _ _ _ => lp_e glp4) H (fun hf => by rw [← mL_T H.2.2.1.1]; show ((_ == 43 || _ == 45)) = false; rw [beq_false_of_ne n0, beq_false_of_ne n1]; rfl)⟩, fun e1 g S2 eg => go 45 g (by decide) rfl hf e1 eg⟩⟩⟩
theorem e_260 {n : Nat} {X : aX} (K : mt259 n X) (KL : ml260 n X) : mt260 (n + 1) X := by
  intro h S hp
  refine d260_0 S K ⟨hp, fun h1 k1 => ?_⟩
  refine pt_q (KL k1.1 (mRes_p hp k1.2)) ?_
  rintro v h' ⟨ev, p1, p2⟩
  exact ⟨ev, p1, m_seq gsq6 hp k1.2 p2⟩
theorem f_260 {n : Nat} {X : aX} (K : mt259 n X) (KL : ml260 n X) : ml260 (n + 1) X := by
  intro h S H
  have go : ∀ (c : Int) (g : aH), 0 ≤ c → opB 7 c = true → vw h 72 65 < 0 → mL (vw h) = c → vw g = up (vw h) 72 64 (w32 (vw h 72 64 + 1)) → mpre (vw g) ∧ ∀ h1 : aH, (wS h1 ∧ mRes 5 (vw g) (vw h1)) → ∀ h2 : aH, (wS h2 ∧ lfr (vw h1) (vw h2)) → Pt n X zM260 4 [some (.ref 72)] [] h2 (qN (fun h' => wS h' ∧ mLo 7 (vw h) (vw h'))) := by
    intro c g c0 ho hf hc eg
    have k2 := (m_here H hf c0 hc eg).2.1
    refine ⟨k2, fun h1 k1 h2 l => ?_⟩
    refine pt_q (KL l.1 (mRes_p k2 (mRes_y k1.2 l.2))) ?_
    rintro v h' ⟨ev, p1, p2⟩
    exact ⟨ev, p1, m_step glp7 H hf c0 hc ho eg k1.2 l.2 p2⟩
  exact d260_4 S K ⟨fun w => ⟨S, ⟨fun z => by omega, fun _ => ⟨mfr_r _, rfl, rfl⟩⟩⟩, fun hf => ⟨fun n0 => ⟨S, m_out (fun _ _ _ => lp_e glp7) H (fun hf => by rw [← mL_T H.2.2.1.1]; show (_ == 38) = false; rw [beq_false_of_ne n0])⟩, fun e0 g S2 eg => go 38 g (by decide) rfl hf e0 eg⟩⟩
theorem e_261 {n : Nat} {X : aX} (K : mt260 n X) (KL : ml261 n X) : mt261 (n + 1) X := by
  intro h S hp
  refine d261_0 S K ⟨hp, fun h1 k1 => ?_⟩
  refine pt_q (KL k1.1 (mRes_p hp k1.2)) ?_
  rintro v h' ⟨ev, p1, p2⟩
  exact ⟨ev, p1, m_seq gsq8 hp k1.2 p2⟩
theorem f_261 {n : Nat} {X : aX} (K : mt260 n X) (KL : ml261 n X) : ml261 (n + 1) X := by
  intro h S H
  have go : ∀ (c : Int) (g : aH), 0 ≤ c → opB 9 c = true → vw h 72 65 < 0 → mL (vw h) = c → vw g = up (vw h) 72 64 (w32 (vw h 72 64 + 1)) → mpre (vw g) ∧ ∀ h1 : aH, (wS h1 ∧ mRes 6 (vw g) (vw h1)) → ∀ h2 : aH, (wS h2 ∧ lfr (vw h1) (vw h2)) → Pt n X zM261 4 [some (.ref 72)] [] h2 (qN (fun h' => wS h' ∧ mLo 9 (vw h) (vw h'))) := by
    intro c g c0 ho hf hc eg
    have k2 := (m_here H hf c0 hc eg).2.1
    refine ⟨k2, fun h1 k1 h2 l => ?_⟩
    refine pt_q (KL l.1 (mRes_p k2 (mRes_y k1.2 l.2))) ?_
    rintro v h' ⟨ev, p1, p2⟩
    exact ⟨ev, p1, m_step glp9 H hf c0 hc ho eg k1.2 l.2 p2⟩
  exact d261_4 S K ⟨fun w => ⟨S, ⟨fun z => by omega, fun _ => ⟨mfr_r _, rfl, rfl⟩⟩⟩, fun hf => ⟨fun n0 => ⟨S, m_out (fun _ _ _ => lp_e glp9) H (fun hf => by rw [← mL_T H.2.2.1.1]; show (_ == 124) = false; rw [beq_false_of_ne n0])⟩, fun e0 g S2 eg => go 124 g (by decide) rfl hf e0 eg⟩⟩
theorem e_259 {n : Nat} {X : aX} (K : mt258 n X) : mt259 (n + 1) X := by
  intro h S hp
  refine d259_0 S K ⟨hp, fun h1 k1 => ?_⟩
  have H := mRes_p hp k1.2
  have go : ∀ (c : Int) (g : aH), 0 ≤ c → opB 12 c = true → vw h1 72 65 < 0 → mL (vw h1) = c → vw g = up (vw h1) 72 64 (w32 (vw h1 72 64 + 1)) → mpre (vw g) ∧ ∀ h3 : aH, (wS h3 ∧ mRes 3 (vw g) (vw h3)) → ∀ h2 : aH, (wS h2 ∧ lfr (vw h3) (vw h2)) → wS h2 ∧ mRes 5 (vw h) (vw h2) := by
    intro c g c0 ho hf hc eg
    exact ⟨(m_here H hf c0 hc eg).2.1, fun h3 k3 h2 l => ⟨l.1, m_seq gsq5 hp k1.2 (m_cho gch12 H hf c0 hc ho eg (mRes_y k3.2 l.2))⟩⟩
  exact ⟨fun w => ⟨k1.1, m_seq gsq5 hp k1.2 ⟨fun z => by omega, fun _ => ⟨mfr_r _, rfl, rfl⟩⟩⟩, fun hf => ⟨fun e g S2 eg => go 60 g (by decide) rfl hf e eg, fun n0 => ⟨fun e g S2 eg => go 61 g (by decide) rfl hf e eg, fun n1 => ⟨fun e g S2 eg => go 62 g (by decide) rfl hf e eg, fun n2 => ⟨k1.1, m_seq gsq5 hp k1.2 (m_out (fun _ _ _ => ch_e gch12) H (fun _ => by rw [← mL_T H.2.2.1.1]; show ((_ == 60 || _ == 61) || _ == 62) = false; rw [beq_false_of_ne n0, beq_false_of_ne n1, beq_false_of_ne n2]; rfl))⟩⟩⟩⟩⟩
theorem l_256 {X : aX} {V : vS} (nn : nmB (mT V (V 72 64)) = false) (n3 : mT V (V 72 64) ≠ 33) (n4 : mT V (V 72 64) ≠ 45) (n5 : mT V (V 72 64) ≠ 40) (HV : mpre V) : ∀ (n : Nat) (h : aH) (x1 x2 x3 : Int32) (j : Nat), wS h → j ≤ 6 → x2.toInt = 6 - (j : Int) → vw h 72 64 = V 72 64 + (6 - (j : Int)) → vw h = up V 72 64 (V 72 64 + (6 - (j : Int))) → dgEnd (mT V) 6 (V 72 64) = dgEnd (mT V) j (V 72 64 + (6 - (j : Int))) → V 72 64 + (6 - (j : Int)) ≤ V 72 54 → Pt n X zM256 148 [some (.ref 72), some (.int x1), some (.int x2), some (.int x3)] [] h (qN (fun h' => wS h' ∧ mRes 0 V (vw h'))) := by
  intro n
  induction n with
  | zero => exact fun _ _ _ _ _ _ _ _ _ _ _ _ => pt_z
  | succ n ih =>
    intro h x1 x2 x3 j S hj h2 h64 ev ed hl
    have h0 := HV.2.2.1
    have h160 := HV.2.2.2
    have T' : mT (vw h) = mT V := by rw [ev]; exact mfr_T (mfr_u (mfr_r V) (Or.inl rfl))
    have mLe : mL (vw h) = mT V (V 72 64 + (6 - (j : Int))) := by rw [mL_T (by omega), T', h64]
    have F : mfr V (vw h) := by rw [ev]; exact mfr_u (mfr_r V) (Or.inl rfl)
    have h65 : vw h 72 65 = -1 := by rw [ev, up_j (by decide)]; exact HV.1
    have h66 : vw h 72 66 = V 72 66 := by rw [ev, up_j (by decide)]
    have hD : ∀ c : Int, (48 ≤ c ∧ c ≤ 57) ↔ isD c = true := fun c => by unfold isD; rw [decide_eq_true_eq]
    have p := op_no (o := V 72 66) nn n3 n4 n5
    -- the place reached is the digits' end
    have bad : dgEnd (mT V) 6 (V 72 64) = V 72 64 + (6 - (j : Int)) → (dgEnd (mT V) 6 (V 72 64) = V 72 64 ∨ isD (mT V (dgEnd (mT V) 6 (V 72 64))) = true) → ∀ g : aH, (wS g ∧ R252 (vw h) (vw g)) → wS g ∧ mRes 0 V (vw g) := by
      intro d c g k
      rw [if_pos c, d] at p
      refine ⟨k.1, ?_⟩
      rcases k.2 with ⟨z, -⟩ | ⟨-, z⟩
      · omega
      · rw [h64] at z
        exact ⟨by rw [z]; exact mfr_u F (Or.inr (Or.inl rfl)), _, _, p, by rw [z, up_j (by decide)]; exact h64, by rw [z, up_s], fun w => by omega, hl⟩
    have good : dgEnd (mT V) 6 (V 72 64) = V 72 64 + (6 - (j : Int)) → ¬ (dgEnd (mT V) 6 (V 72 64) = V 72 64 ∨ isD (mT V (dgEnd (mT V) 6 (V 72 64))) = true) → ∀ g : aH, (wS g ∧ lfr (vw h) (vw g)) → wS g ∧ mRes 0 V (vw g) := by
      intro d c g k
      rw [if_neg c, d] at p
      refine ⟨k.1, mfr_t F (lfr_m k.2), _, _, p, (lfr_e k.2 (by decide)).trans h64, (lfr_e k.2 (by decide)).trans h65, fun _ => (lfr_e k.2 (by decide)).trans h66, hl⟩
    have fin : dgEnd (mT V) 6 (V 72 64) = V 72 64 + (6 - (j : Int)) → ((x2.toInt = 0 → ∀ g : aH, (wS g ∧ R252 (vw h) (vw g)) → wS g ∧ mRes 0 V (vw g)) ∧ (x2.toInt ≠ 0 → ((¬ (48 ≤ (mL (vw h)) ∧ (mL (vw h)) ≤ 57) → ∀ g : aH, (wS g ∧ lfr (vw h) (vw g)) → wS g ∧ mRes 0 V (vw g)) ∧ ((48 ≤ (mL (vw h)) ∧ (mL (vw h)) ≤ 57) → ∀ g : aH, (wS g ∧ R252 (vw h) (vw g)) → wS g ∧ mRes 0 V (vw g))))) := by
      intro d
      refine ⟨fun e => bad d (Or.inl (by omega)), fun e => ⟨fun nd => good d (fun z => ?_), fun dd => bad d (Or.inr ?_)⟩⟩
      · rcases z with z | z
        · omega
        · rw [d, ← mLe] at z
          exact nd ((hD _).mpr z)
      · rw [d, ← mLe]
        exact (hD _).mp dd
    refine d256_148 S rfl rfl rfl ⟨fun e1 => ?_, fun e1 => ⟨fun nd => ?_, fun dd g S2 eg w2 w3 g2 g3 => ?_⟩⟩
    · obtain rfl : j = 0 := by omega
      exact fin ed
    · obtain ⟨i, rfl⟩ : ∃ i, j = i + 1 := ⟨j - 1, by omega⟩
      have z : isD (mT V (V 72 64 + (6 - ((i + 1 : Nat) : Int)))) = false := by
        cases w : isD (mT V (V 72 64 + (6 - ((i + 1 : Nat) : Int)))) with
        | false => rfl
        | true => rw [← mLe] at w; exact absurd ((hD _).mpr w) nd
      have e : dgEnd (mT V) (i + 1) (V 72 64 + (6 - ((i + 1 : Nat) : Int))) = bif isD (mT V (V 72 64 + (6 - ((i + 1 : Nat) : Int)))) then dgEnd (mT V) i (V 72 64 + (6 - ((i + 1 : Nat) : Int)) + 1) else V 72 64 + (6 - ((i + 1 : Nat) : Int)) := rfl
      rw [z] at e
      exact fin (ed.trans e)
    · obtain ⟨i, rfl⟩ : ∃ i, j = i + 1 := ⟨j - 1, by omega⟩
      have z : isD (mT V (V 72 64 + (6 - ((i + 1 : Nat) : Int)))) = true := by rw [← mLe]; exact (hD _).mp dd
      have e : dgEnd (mT V) (i + 1) (V 72 64 + (6 - ((i + 1 : Nat) : Int))) = bif isD (mT V (V 72 64 + (6 - ((i + 1 : Nat) : Int)))) then dgEnd (mT V) i (V 72 64 + (6 - ((i + 1 : Nat) : Int)) + 1) else V 72 64 + (6 - ((i + 1 : Nat) : Int)) := rfl
      rw [z] at e
      have lt : V 72 64 + (6 - ((i + 1 : Nat) : Int)) < V 72 54 := mT_lt (fun w => by rw [w] at z; cases z)
      replace g2 := w_1 g2 (by omega) (by omega)
      have ee : V 72 64 + (6 - ((i + 1 : Nat) : Int)) + 1 = V 72 64 + (6 - (i : Int)) := by omega
      rw [h64, w32_id (by omega) (by omega), ee, ev, up_up] at eg
      refine ih g x1 w2 w3 i S2 (by omega) (by omega) (by rw [eg, up_s]) eg ?_ (by omega)
      rw [ed, e, ee]
      rfl
theorem e_256 {n : Nat} {X : aX} (K6 : mt256 n X) (K1 : mt261 n X) : mt256 (n + 1) X := by
  intro h S hp
  have h0 := hp.2.2.1
  have h160 := hp.2.2.2
  have hm := mL_T (V := vw h) h0.1
  have wo : ∀ {z : Int}, 0 ≤ z → z ≤ 160 → w32 (z + 1) = z + 1 := fun _ _ => w32_id (by omega) (by omega)
  -- a sign that opens, at depth eight
  have sh : ∀ (y : Int) (g : aH), (mT (vw h) (vw h 72 64) = 33 ∨ mT (vw h) (vw h 72 64) = 45 ∨ mT (vw h) (vw h 72 64) = 40) → (wS g ∧ R254 (vw h) y (vw g)) → y = 0 → wS g ∧ mRes 0 (vw h) (vw g) := by
    intro y g c k e
    rcases k.2 with ⟨z, -⟩ | ⟨-, z, w⟩
    · omega
    · have p := op_8 (T := mT (vw h)) c z
      rcases w with ⟨w, -⟩ | ⟨-, w⟩
      · have := hp.1
        omega
      · refine ⟨k.1, by rw [w]; exact mfr_u (mfr_r _) (Or.inr (Or.inl rfl)), _, _, p, by rw [w, up_j (by decide)], by rw [w, up_s], fun u => by omega, h0.2⟩
  -- it opens
  have op : ∀ (y : Int) (g : aH), (mT (vw h) (vw h 72 64) = 33 ∨ mT (vw h) (vw h 72 64) = 45 ∨ mT (vw h) (vw h 72 64) = 40) → R254 (vw h) y (vw g) → y ≠ 0 → vw h 72 66 ≠ 8 ∧ mpre (vw g) ∧ vw g 72 64 = vw h 72 64 + 1 ∧ vw g 72 66 = vw h 72 66 + 1 ∧ mT (vw g) = mT (vw h) ∧ vw g 72 54 = vw h 72 54 ∧ mfr (vw h) (vw g) := by
    intro y g c k e
    have lt : vw h 72 64 < vw h 72 54 := mT_lt (by omega)
    rcases k with ⟨-, z, w⟩ | ⟨z, -⟩
    · have h66 := hp.2.1
      rw [wo h66.1 (by omega), wo h0.1 (by omega)] at w
      have F : mfr (vw h) (vw g) := by rw [w]; exact mfr_u (mfr_u (mfr_r _) (Or.inr (Or.inr (Or.inl rfl)))) (Or.inl rfl)
      have a1 : vw g 72 64 = vw h 72 64 + 1 := by rw [w, up_s]
      have a2 : vw g 72 66 = vw h 72 66 + 1 := by rw [w, up_j (by decide), up_s]
      have a3 : vw g 72 65 = -1 := by rw [w, up_j (by decide), up_j (by decide)]; exact hp.1
      have a4 := mfr_54 F
      exact ⟨z, ⟨a3, by rw [a2]; omega, by rw [a1, a4]; omega, by rw [a4]; exact h160⟩, a1, a2, mfr_T F, a4, F⟩
    · exact absurd z e
  -- behind ! or -
  have un : ∀ (y : Int) (g h8 h12 h17 : aH), (mT (vw h) (vw h 72 64) = 33 ∨ mT (vw h) (vw h 72 64) = 45) → R254 (vw h) y (vw g) → y ≠ 0 → mRes 0 (vw g) (vw h8) → vw h12 = up (vw h8) 72 66 (w32 (vw h8 72 66 - 1)) → (wS h17 ∧ lfr (vw h12) (vw h17)) → wS h17 ∧ mRes 0 (vw h) (vw h17) := by
    intro y g h8 h12 h17 c k e c1 e12 l
    obtain ⟨o1, o2, o3, o4, o5, o6, o7⟩ := op y g (by omega) k e
    obtain ⟨F1, q, f, p, b1, b2, b3, b4⟩ := c1
    rw [o5, o4, o3] at p
    rw [o4] at b3
    rw [o6] at b4
    have F2 : mfr (vw h8) (vw h12) := by rw [e12]; exact mfr_u (mfr_r _) (Or.inr (Or.inr (Or.inl rfl)))
    refine ⟨l.1, mfr_t o7 (mfr_t F1 (mfr_t F2 (lfr_m l.2))), q, f, op_un c o1 p, ?_, ?_, fun w => ?_, b4⟩
    · rw [lfr_e l.2 (by decide), e12, up_j (by decide)]; exact b1
    · rw [lfr_e l.2 (by decide), e12, up_j (by decide)]; exact b2
    · have h66 := hp.2.1
      rw [lfr_e l.2 (by decide), e12, up_s, b3 w, w32_id (by omega) (by omega)]
      omega
  refine d256_0 S K6 K1 (fun y2 h2 k2 => ?_)
  obtain ⟨S2, rfl, k2⟩ := k2
  refine ⟨fun e2 => ?_, fun e2 y60 h60 k60 h61 k61 h65 S65 e65 => ?_⟩
  · have nn : nmB (mT (vw h2) (vw h2 72 64)) = false := by
      rw [← hm]
      rcases k2 with ⟨-, z⟩ | ⟨z, -⟩
      · omega
      · exact z
    rw [hm]
    refine ⟨fun e3 y6 h6 k6 => ⟨fun e6 => ⟨(op y6 h6 (Or.inl e3) k6.2 e6).2.1, fun h8 k8 => ⟨fun z => absurd e3 z, fun _ h12 S12 e12 h20 k20 => un y6 h6 h8 h12 h20 (Or.inl e3) k6.2 e6 k8.2 e12 k20⟩⟩, fun e6 => sh y6 h6 (Or.inl e3) k6 e6⟩, fun n3 => ⟨fun n4 => ⟨fun n5 w1 w2 w3 g1 g2 g3 => ?_, fun e5 y27 h27 k27 => ?_⟩, fun e4 y44 h44 k44 => ⟨fun e6 => ⟨(op y44 h44 (Or.inr (Or.inl e4)) k44.2 e6).2.1, fun h46 k46 => ⟨fun _ h50 S50 e50 h55 k55 => un y44 h44 h46 h50 h55 (Or.inr e4) k44.2 e6 k46.2 e50 k55, fun z => absurd z n3⟩⟩, fun e6 => sh y44 h44 (Or.inr (Or.inl e4)) k44 e6⟩⟩⟩
    · exact l_256 (V := vw h2) nn n3 n4 n5 hp n h2 w1 w2 w3 6 S2 (Nat.le_refl _) (by omega) (by omega) (by rw [show vw h2 72 64 + (6 - ((6 : Nat) : Int)) = vw h2 72 64 by omega, up_id]) (by rw [show vw h2 72 64 + (6 - ((6 : Nat) : Int)) = vw h2 72 64 by omega]) (by omega)
    · refine ⟨fun e6 => ?_, fun e6 => sh y27 h27 (Or.inr (Or.inr e5)) k27 e6⟩
      obtain ⟨o1, o2, o3, o4, o5, o6, o7⟩ := op y27 h27 (Or.inr (Or.inr e5)) k27.2 e6
      refine ⟨o2, fun h29 k29 => ?_⟩
      have lp := mRes_p o2 k29.2
      have h66 := hp.2.1
      obtain ⟨F1, q, f, p, b1, b2, b3, b4⟩ := k29.2
      have pb := pr_b (by omega) p
      rw [o5, o4, o3] at p
      rw [o4] at b3
      rw [o6] at b4
      have T9 : mT (vw h29) = mT (vw h2) := (mfr_T F1).trans o5
      have m9 : mL (vw h29) = mT (vw h2) q := by rw [mL_T lp.2.2.1.1, T9, b1]
      have h54 : vw h29 72 54 = vw h2 72 54 := (mfr_54 F1).trans o6
      refine ⟨fun lt => ?_, fun ge => ⟨k29.1, mfr_t o7 F1, q, f, op_br e5 o1 p (Or.inl ⟨by omega, rfl, rfl⟩), b1, b2, fun w => by omega, b4⟩⟩
      have ef : f = -1 := by omega
      rw [m9]
      refine ⟨fun e41 h42 S42 e42 => ⟨S42, ?_⟩, fun n41 h43 k43 => ⟨k43.1, ?_⟩⟩
      · have qlt : q < vw h2 72 54 := mT_lt (by omega)
        have q0 : 0 ≤ q := by omega
        rw [b1, wo q0 (by omega), b3 (by omega), w32_id (by omega) (by omega)] at e42
        refine ⟨mfr_t o7 (mfr_t F1 (by rw [e42]; exact mfr_u (mfr_u (mfr_r _) (Or.inr (Or.inr (Or.inl rfl)))) (Or.inl rfl))), q + 1, -1, op_br e5 o1 p (Or.inr (Or.inl ⟨ef, e41, rfl, rfl⟩)), by rw [e42, up_s], by rw [e42, up_j (by decide), up_j (by decide), b2, ef], fun _ => ?_, by omega⟩
        rw [e42, up_j (by decide), up_s]
        omega
      · rcases k43.2 with ⟨w, -⟩ | ⟨-, w⟩
        · omega
        · rw [b1] at w
          exact ⟨mfr_t o7 (mfr_t F1 (by rw [w]; exact mfr_u (mfr_r _) (Or.inr (Or.inl rfl)))), q, q, op_br e5 o1 p (Or.inr (Or.inr ⟨ef, n41, rfl, rfl⟩)), by rw [w, up_j (by decide)]; exact b1, by rw [w, up_s], fun u => by omega, b4⟩
  · obtain ⟨-, rfl, -⟩ := k60
    have nn : nmB (mT (vw h60) (vw h60 72 64)) = true := by
      rw [← hm]
      rcases k2 with ⟨z, -⟩ | ⟨-, z⟩
      · exact z
      · omega
    have lt : vw h60 72 64 < vw h60 72 54 := mT_lt (fun w => by rw [w] at nn; cases nn)
    rw [lfr_e k61.2 (by decide), wo h0.1 (by omega)] at e65
    refine ⟨S65, mfr_t (lfr_m k61.2) (by rw [e65]; exact mfr_u (mfr_r _) (Or.inl rfl)), _, _, op_nm nn, by rw [e65, up_s], ?_, fun _ => ?_, by omega⟩
    · rw [e65, up_j (by decide), lfr_e k61.2 (by decide)]; exact hp.1
    · rw [e65, up_j (by decide), lfr_e k61.2 (by decide)]
theorem m_gram (X : aX) : ∀ n : Nat, mt256 n X ∧ (mt257 n X ∧ ml257 n X) ∧ (mt258 n X ∧ ml258 n X) ∧ mt259 n X ∧ (mt260 n X ∧ ml260 n X) ∧ mt261 n X ∧ ml261 n X := by
  intro n
  induction n with
  | zero => exact ⟨fun _ _ => pt_z, ⟨fun _ _ => pt_z, fun _ _ => pt_z⟩, ⟨fun _ _ => pt_z, fun _ _ => pt_z⟩, fun _ _ => pt_z, ⟨fun _ _ => pt_z, fun _ _ => pt_z⟩, fun _ _ => pt_z, fun _ _ => pt_z⟩
  | succ n ih =>
    obtain ⟨i1, ⟨i2, i3⟩, ⟨i4, i5⟩, i6, ⟨i7, i8⟩, i9, i10⟩ := ih
    exact ⟨e_256 i1 i9, ⟨e_257 i1 i3, f_257 i1 i3⟩, ⟨e_258 i2 i5, f_258 i2 i5⟩, e_259 i4, ⟨e_260 i6 i8, f_260 i6 i8⟩, e_261 i7 i10, f_261 i7 i10⟩


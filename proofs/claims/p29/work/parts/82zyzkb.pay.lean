-- ===== what a farm is paid =====
theorem d11_0 {n : Nat} {X : aX} {h : aH} {P : Int → aH → Prop} {x1 x2 : Int32} {a1 a2 : Int} (S : wS h) (z1 : x1.toInt = a1) (z2 : x2.toInt = a2) (H : ((a2 = (-1) → P (hel (w64 (a1 + (jDiv (w64 (a1 * 3)) 10)))) h) ∧ (a2 ≠ (-1) → ((tOK (vw h) a2) ∧ ∀ (y15 : Int) (h_15 : aH), (wS h_15 ∧ R121 (vw h) a2 y15 (vw h_15)) → ((y15 = 0 → P a1 h_15) ∧ (y15 ≠ 0 → P (hel (w64 (a1 + (jDiv (w64 (a1 * 3)) 10)))) h_15)))))) : Pt (n + 1) X zM11 0 [some (.ref 41), some (.int x1), some (.int x2), none] [] h (qI P) := by
  refine pt_1 (fun n d => r_iloadn gx11_0 rfl) ?_
  refine pt_d (pt_iconst gx11_1 (fun v1 h1 => ?_))
  refine pt_d (pt_icmp_eq gx11_2 z2 h1 (fun e2 => ?_) (fun e2 => ?_))
  · have H := H.1 e2
    refine pt_d (pt_iconst gx11_20 (fun v3 h3 => ?_))
    refine pt_d (pt_1 (fun n d => r_goto gx11_21) ?_)
    refine pt_d (pt_1 (fun n d => r_istoren (L' := [some (.ref 41), some (.int x1), some (.int x2), some (.int v3)]) gx11_25 rfl rfl) ?_)
    refine pt_d (pt_1 (fun n d => r_iloadn gx11_26 rfl) ?_)
    refine pt_d (pt_if_eq gx11_27 h3 (fun e4 => absurd e4 (by decide)) (fun e4 => ?_))
    refine pt_d (pt_1 (fun n d => r_iloadn gx11_30 rfl) ?_)
    refine pt_d (pt_i2l gx11_31 z1 (fun v5 h5 => ?_))
    refine pt_d (pt_1 (fun n d => r_iloadn gx11_32 rfl) ?_)
    refine pt_d (pt_i2l gx11_33 z1 (fun v6 h6 => ?_))
    refine pt_d (pt_ldc2_w (c := 3) gx11_34 rfl (fun v7 h7 => ?_))
    refine pt_d (pt_lmul gx11_37 h6 h7 (fun v8 h8 => ?_))
    refine pt_d (pt_ldc2_w (c := 10) gx11_38 rfl (fun v9 h9 => ?_))
    refine pt_d (pt_ldiv gx11_41 h8 h9 (fun v10 h10 => ?_))
    refine pt_d (pt_ladd gx11_42 h5 h10 (fun v11 h11 => ?_))
    refine pt_d (pt_stat (as := [.long v11]) (r := []) gx11_43 rfl (show zmt[9]? = some zM9 from rfl) rfl rfl rfl rfl (c_9 S h11) (kqP (fun v12 h12 => ?_)))
    show Pt _ _ _ 46 _ [.int v12] _ _
    refine pt_d (pt_1 (fun n d => r_goto gx11_46) ?_)
    exact pt_d (pt_iret gx11_50 ⟨_, rfl, by rw [h12]; exact H⟩)
  · have H := H.2 e2
    refine pt_d (pt_1 (fun n d => r_aloadn gx11_5 rfl) ?_)
    refine pt_d (pt_getR gx11_6 S tr_41_2 ?_)
    refine pt_d (pt_1 (fun n d => r_iloadn gx11_9 rfl) ?_)
    refine pt_d (pt_1 (fun n d => r_aloadn gx11_10 rfl) ?_)
    refine pt_d (pt_getR gx11_11 S tr_41_4 ?_)
    obtain ⟨pr15, H⟩ := H
    refine pt_d (pt_virt (as := [.int x2, .ref 43]) (r := []) gx11_14 rfl (show zmt[121]? = some zM121 from rfl) rfl rfl rfl rfl (c_121 S z2 pr15) (kqI (fun v15 y15 h_15 h15 P15 => ?_)))
    have S15 := P15.1
    have H := H y15 h_15 P15
    show Pt _ _ _ 17 _ [.int v15] _ _
    refine pt_d (pt_if_eq gx11_17 h15 (fun e16 => ?_) (fun e16 => ?_))
    · have H := H.1 e16
      refine pt_d (pt_iconst gx11_24 (fun v17 h17 => ?_))
      refine pt_d (pt_1 (fun n d => r_istoren (L' := [some (.ref 41), some (.int x1), some (.int x2), some (.int v17)]) gx11_25 rfl rfl) ?_)
      refine pt_d (pt_1 (fun n d => r_iloadn gx11_26 rfl) ?_)
      refine pt_d (pt_if_eq gx11_27 h17 (fun e18 => ?_) (fun e18 => absurd e18 (by decide)))
      refine pt_d (pt_1 (fun n d => r_iloadn gx11_49 rfl) ?_)
      exact pt_d (pt_iret gx11_50 ⟨_, rfl, by rw [z1]; exact H⟩)
    · have H := H.2 e16
      refine pt_d (pt_iconst gx11_20 (fun v19 h19 => ?_))
      refine pt_d (pt_1 (fun n d => r_goto gx11_21) ?_)
      refine pt_d (pt_1 (fun n d => r_istoren (L' := [some (.ref 41), some (.int x1), some (.int x2), some (.int v19)]) gx11_25 rfl rfl) ?_)
      refine pt_d (pt_1 (fun n d => r_iloadn gx11_26 rfl) ?_)
      refine pt_d (pt_if_eq gx11_27 h19 (fun e20 => absurd e20 (by decide)) (fun e20 => ?_))
      refine pt_d (pt_1 (fun n d => r_iloadn gx11_30 rfl) ?_)
      refine pt_d (pt_i2l gx11_31 z1 (fun v21 h21 => ?_))
      refine pt_d (pt_1 (fun n d => r_iloadn gx11_32 rfl) ?_)
      refine pt_d (pt_i2l gx11_33 z1 (fun v22 h22 => ?_))
      refine pt_d (pt_ldc2_w (c := 3) gx11_34 rfl (fun v23 h23 => ?_))
      refine pt_d (pt_lmul gx11_37 h22 h23 (fun v24 h24 => ?_))
      refine pt_d (pt_ldc2_w (c := 10) gx11_38 rfl (fun v25 h25 => ?_))
      refine pt_d (pt_ldiv gx11_41 h24 h25 (fun v26 h26 => ?_))
      refine pt_d (pt_ladd gx11_42 h21 h26 (fun v27 h27 => ?_))
      refine pt_d (pt_stat (as := [.long v27]) (r := []) gx11_43 rfl (show zmt[9]? = some zM9 from rfl) rfl rfl rfl rfl (c_9 S15 h27) (kqP (fun v28 h28 => ?_)))
      show Pt _ _ _ 46 _ [.int v28] _ _
      refine pt_d (pt_1 (fun n d => r_goto gx11_46) ?_)
      exact pt_d (pt_iret gx11_50 ⟨_, rfl, by rw [h28]; exact H⟩)
theorem d12_0 {n : Nat} {X : aX} {h : aH} {P : Int → aH → Prop} {x1 x2 : Int32} {a1 a2 : Int} (S : wS h) (z1 : x1.toInt = a1) (z2 : x2.toInt = a2) (H : ((a2 ≠ (-1) → ∀ h_5 : aH, wS h_5 → vw h_5 = up (vw h) 43 10 a1 → ((tOK (vw h_5) a2) ∧ ∀ (y8 : Int) (h_8 : aH), (wS h_8 ∧ R121 (vw h_5) a2 y8 (vw h_8)) → ∀ h_12 : aH, wS h_12 → vw h_12 = up (vw h_8) 43 10 0 → P (max 0 (min a1 y8)) h_12)) ∧ (a2 = (-1) → P a1 h))) : Pt (n + 1) X zM12 0 [some (.ref 41), some (.int x1), some (.int x2), none] [] h (qI P) := by
  refine pt_1 (fun n d => r_iloadn gx12_0 rfl) ?_
  refine pt_d (pt_iconst gx12_1 (fun v1 h1 => ?_))
  refine pt_d (pt_icmp_ne gx12_2 z2 h1 (fun e2 => ?_) (fun e2 => ?_))
  · have H := H.1 e2
    refine pt_d (pt_1 (fun n d => r_aloadn gx12_7 rfl) ?_)
    refine pt_d (pt_getR gx12_8 S tr_41_4 ?_)
    refine pt_d (pt_bipush gx12_11 (fun v4 h4 => ?_))
    refine pt_d (pt_1 (fun n d => r_iloadn gx12_13 rfl) ?_)
    refine pt_d (pt_iast (N' := 13) gx12_14 S tl_43 h4 z1 (fun h_5 S5 p5 q5 e5 => ?_))
    refine pt_d (pt_1 (fun n d => r_aloadn gx12_15 rfl) ?_)
    refine pt_d (pt_getR gx12_16 S5 tr_41_2 ?_)
    refine pt_d (pt_1 (fun n d => r_iloadn gx12_19 rfl) ?_)
    refine pt_d (pt_1 (fun n d => r_aloadn gx12_20 rfl) ?_)
    refine pt_d (pt_getR gx12_21 S5 tr_41_4 ?_)
    have H := H h_5 S5 (by rw [e5])
    obtain ⟨pr8, H⟩ := H
    refine pt_d (pt_virt (as := [.int x2, .ref 43]) (r := []) gx12_24 rfl (show zmt[121]? = some zM121 from rfl) rfl rfl rfl rfl (c_121 S5 z2 pr8) (kqI (fun v8 y8 h_8 h8 P8 => ?_)))
    have S8 := P8.1
    have H := H y8 h_8 P8
    show Pt _ _ _ 27 _ [.int v8] _ _
    refine pt_d (pt_1 (fun n d => r_istoren (L' := [some (.ref 41), some (.int x1), some (.int x2), some (.int v8)]) gx12_27 rfl rfl) ?_)
    refine pt_d (pt_1 (fun n d => r_aloadn gx12_28 rfl) ?_)
    refine pt_d (pt_getR gx12_29 S8 tr_41_4 ?_)
    refine pt_d (pt_bipush gx12_32 (fun v10 h10 => ?_))
    refine pt_d (pt_iconst gx12_34 (fun v11 h11 => ?_))
    refine pt_d (pt_iast (N' := 13) gx12_35 S8 tl_43 h10 h11 (fun h_12 S12 p12 q12 e12 => ?_))
    refine pt_d (pt_iconst gx12_36 (fun v13 h13 => ?_))
    refine pt_d (pt_1 (fun n d => r_iloadn gx12_37 rfl) ?_)
    refine pt_d (pt_1 (fun n d => r_iloadn gx12_38 rfl) ?_)
    refine pt_d (pt_min gx12_39 rfl z1 h8 (fun v14 h14 => ?_))
    refine pt_d (pt_max gx12_42 rfl h13 h14 (fun v15 h15 => ?_))
    have H := H h_12 S12 (by rw [e12])
    exact pt_d (pt_iret gx12_45 ⟨_, rfl, by rw [h15]; exact H⟩)
  · have H := H.2 e2
    refine pt_d (pt_1 (fun n d => r_iloadn gx12_5 rfl) ?_)
    exact pt_d (pt_iret gx12_6 ⟨_, rfl, by rw [z1]; exact H⟩)
theorem d13_0 {n : Nat} {X : aX} {h : aH} {P : Int → aH → Prop} {x1 x2 : Int32} {a1 a2 : Int} (S : wS h) (z1 : x1.toInt = a1) (z2 : x2.toInt = a2) (H : ((a2 ≠ (-1) → ∀ h_2 : aH, wS h_2 → vw h_2 = up (vw h) 41 7 (-1) → ((tOK (vw h_2) a2) ∧ ∀ (y9 : Int) (h_9 : aH), (wS h_9 ∧ R121 (vw h_2) a2 y9 (vw h_9)) → ((vw h_9 43 11 ≠ 1 → ∀ h_14 : aH, wS h_14 → vw h_14 = up (vw h_9) 41 7 (vw h_9 33 14) → P (w32 (a1 - (w32 (jDiv (w64 ((w64 (a1 * (max 0 (min 100 y9)))) + 99)) 100)))) h_14) ∧ (vw h_9 43 11 = 1 → ∀ h_14 : aH, wS h_14 → vw h_14 = up (vw h_9) 41 7 (vw h_9 33 14) → P a1 h_14)))) ∧ (a2 = (-1) → ∀ h_2 : aH, wS h_2 → vw h_2 = up (vw h) 41 7 (-1) → P a1 h_2))) : Pt (n + 1) X zM13 0 [some (.ref 41), some (.int x1), some (.int x2), none] [] h (qI P) := by
  refine pt_1 (fun n d => r_aloadn gx13_0 rfl) ?_
  refine pt_d (pt_iconst gx13_1 (fun v1 h1 => ?_))
  refine pt_d (pt_putI (B := 7) gx13_2 S h1 (fun h_2 S2 e2 => ?_))
  refine pt_d (pt_1 (fun n d => r_iloadn gx13_5 rfl) ?_)
  refine pt_d (pt_iconst gx13_6 (fun v3 h3 => ?_))
  refine pt_d (pt_icmp_ne gx13_7 z2 h3 (fun e4 => ?_) (fun e4 => ?_))
  · have H := H.1 e4
    refine pt_d (pt_iconst gx13_12 (fun v5 h5 => ?_))
    refine pt_d (pt_bipush gx13_13 (fun v6 h6 => ?_))
    refine pt_d (pt_1 (fun n d => r_aloadn gx13_15 rfl) ?_)
    refine pt_d (pt_getR gx13_16 S2 tr_41_2 ?_)
    refine pt_d (pt_1 (fun n d => r_iloadn gx13_19 rfl) ?_)
    refine pt_d (pt_1 (fun n d => r_aloadn gx13_20 rfl) ?_)
    refine pt_d (pt_getR gx13_21 S2 tr_41_4 ?_)
    have H := H h_2 S2 (by rw [e2])
    obtain ⟨pr9, H⟩ := H
    refine pt_d (pt_virt (as := [.int x2, .ref 43]) (r := [.int v6, .int v5]) gx13_24 rfl (show zmt[121]? = some zM121 from rfl) rfl rfl rfl rfl (c_121 S2 z2 pr9) (kqI (fun v9 y9 h_9 h9 P9 => ?_)))
    have S9 := P9.1
    have H := H y9 h_9 P9
    show Pt _ _ _ 27 _ [.int v9, .int v6, .int v5] _ _
    refine pt_d (pt_min gx13_27 rfl h6 h9 (fun v10 h10 => ?_))
    refine pt_d (pt_max gx13_30 rfl h5 h10 (fun v11 h11 => ?_))
    refine pt_d (pt_1 (fun n d => r_istoren (L' := [some (.ref 41), some (.int x1), some (.int x2), some (.int v11)]) gx13_33 rfl rfl) ?_)
    refine pt_d (pt_1 (fun n d => r_aloadn gx13_34 rfl) ?_)
    refine pt_d (pt_1 (fun n d => r_aloadn gx13_35 rfl) ?_)
    refine pt_d (pt_getR gx13_36 S9 tr_41_2 ?_)
    refine pt_d (pt_getI (B := 14) gx13_39 S9 (fun v13 h13 => ?_))
    refine pt_d (pt_putI (B := 7) gx13_42 S9 h13 (fun h_14 S14 e14 => ?_))
    refine pt_d (pt_1 (fun n d => r_aloadn gx13_45 rfl) ?_)
    refine pt_d (pt_getR gx13_46 S14 tr_41_4 ?_)
    refine pt_d (pt_bipush gx13_49 (fun v16 h16 => ?_))
    refine pt_d (pt_iald (N' := 13) gx13_51 S14 tl_43 h16 (fun v17 p17 q17 h17 => ?_))
    have h17 : v17.toInt = vw h_9 43 11 := by rw [h17, e14, up_c (by decide)]
    refine pt_d (pt_iconst gx13_52 (fun v18 h18 => ?_))
    refine pt_d (pt_icmp_ne gx13_53 h17 h18 (fun e19 => ?_) (fun e19 => ?_))
    · have H := H.1 e19
      refine pt_d (pt_1 (fun n d => r_iloadn gx13_58 rfl) ?_)
      refine pt_d (pt_1 (fun n d => r_iloadn gx13_59 rfl) ?_)
      refine pt_d (pt_i2l gx13_60 z1 (fun v20 h20 => ?_))
      refine pt_d (pt_1 (fun n d => r_iloadn gx13_61 rfl) ?_)
      refine pt_d (pt_i2l gx13_62 h11 (fun v21 h21 => ?_))
      refine pt_d (pt_lmul gx13_63 h20 h21 (fun v22 h22 => ?_))
      refine pt_d (pt_ldc2_w (c := 99) gx13_64 rfl (fun v23 h23 => ?_))
      refine pt_d (pt_ladd gx13_67 h22 h23 (fun v24 h24 => ?_))
      refine pt_d (pt_ldc2_w (c := 100) gx13_68 rfl (fun v25 h25 => ?_))
      refine pt_d (pt_ldiv gx13_71 h24 h25 (fun v26 h26 => ?_))
      refine pt_d (pt_l2i gx13_72 h26 (fun v27 h27 => ?_))
      refine pt_d (pt_isub gx13_73 z1 h27 (fun v28 h28 => ?_))
      have H := H h_14 S14 (by rw [e14])
      exact pt_d (pt_iret gx13_74 ⟨_, rfl, by rw [h28]; exact H⟩)
    · have H := H.2 e19
      refine pt_d (pt_1 (fun n d => r_iloadn gx13_56 rfl) ?_)
      have H := H h_14 S14 (by rw [e14])
      exact pt_d (pt_iret gx13_57 ⟨_, rfl, by rw [z1]; exact H⟩)
  · have H := H.2 e4
    refine pt_d (pt_1 (fun n d => r_iloadn gx13_10 rfl) ?_)
    have H := H h_2 S2 (by rw [e2])
    exact pt_d (pt_iret gx13_11 ⟨_, rfl, by rw [z1]; exact H⟩)
def f9 (V V' : vS) : Prop := ∀ c j, (c ≠ 33 ∨ (j < 9 ∨ 14 < j)) → V' c j = V c j
theorem oT_k {V W : vS} (e35 : ∀ j, W 35 j = V 35 j) (e36 : ∀ j, W 36 j = V 36 j) (t : Int) : oT W t = oT V t := by
  funext p
  unfold oT
  rw [e36, e35]
theorem tOK_k {V W : vS} (e35 : ∀ j, W 35 j = V 35 j) (e36 : ∀ j, W 36 j = V 36 j) {t : Int} (k : tOK V t) : tOK W t := by
  obtain ⟨⟨a, b, c⟩, ls, d, e⟩ := k
  exact ⟨⟨a, by rw [e36]; exact b, fun j j0 j1 => by rw [e35]; exact c j j0 j1⟩, ls, by rw [oT_k e35 e36]; exact d, e⟩
def pTx (V : vS) (t : Int) : Prop := t ≠ -1 → tOK V t
def grn (s v : Int) : Int := if v = 0 then s else hel (w64 (s + jDiv (w64 (s * 3)) 10))
noncomputable def tv (V : vS) (N : Int → Int) (t d : Int) : Int := if t = -1 then d else (tSay (oT V t) N).1
def R11 (V : vS) (s t y : Int) (V' : vS) : Prop := y = grn s (tv V (fun j => V 43 j) t 1) ∧ f9 V V'
theorem c_11 {n : Nat} {X : aX} {h : aH} {x1 x2 : Int32} {a1 a2 : Int} (S : wS h) (z1 : x1.toInt = a1) (z2 : x2.toInt = a2) (hp : pTx (vw h) a2) : Pt n X zM11 0 [some (.ref 41), some (.int x1), some (.int x2), none] [] h (qI (fun y h' => wS h' ∧ R11 (vw h) a1 a2 y (vw h'))) := by
  refine pt_d (d11_0 S z1 z2 ⟨fun e => ⟨S, ?_, fun _ _ _ => rfl⟩, fun ne => ⟨hp ne, fun y15 h15 k15 => ⟨fun e0 => ⟨k15.1, ?_, k15.2.2.2⟩, fun n0 => ⟨k15.1, ?_, k15.2.2.2⟩⟩⟩⟩)
  · unfold tv grn
    rw [if_pos e, if_neg (by decide)]
  · unfold tv grn
    rw [if_neg ne, ← k15.2.1, if_pos e0]
  · unfold tv grn
    rw [if_neg ne, ← k15.2.1, if_neg n0]
def Nm (N : Int → Int) (s : Int) : Int → Int := fun j => if j = 10 then s else N j
noncomputable def spF (V : vS) (N : Int → Int) (s t : Int) : Int := if t = -1 then s else max 0 (min s (tSay (oT V t) (Nm N s)).1)
def R12 (V : vS) (s t y : Int) (V' : vS) : Prop := y = spF V (fun j => V 43 j) s t ∧ (V' 43 10 = V 43 10 ∨ V' 43 10 = 0) ∧ ∀ c j, (c ≠ 33 ∨ (j < 9 ∨ 14 < j)) → (c ≠ 43 ∨ j ≠ 10) → V' c j = V c j
theorem c_12 {n : Nat} {X : aX} {h : aH} {x1 x2 : Int32} {a1 a2 : Int} (S : wS h) (z1 : x1.toInt = a1) (z2 : x2.toInt = a2) (hp : pTx (vw h) a2) : Pt n X zM12 0 [some (.ref 41), some (.int x1), some (.int x2), none] [] h (qI (fun y h' => wS h' ∧ R12 (vw h) a1 a2 y (vw h'))) := by
  refine pt_d (d12_0 S z1 z2 ⟨fun ne h5 S5 e5 => ⟨tOK_k (fun j => by rw [e5, up_c (by decide)]) (fun j => by rw [e5, up_c (by decide)]) (hp ne), fun y8 h8 k8 h12 S12 e12 => ⟨S12, ?_, Or.inr (by rw [e12, up_s]), fun c j u v => ?_⟩⟩, fun e => ⟨S, ?_, Or.inl rfl, fun _ _ _ _ => rfl⟩⟩)
  · unfold spF
    rw [if_neg ne, k8.2.1, oT_k (V := vw h) (fun j => by rw [e5, up_c (by decide)]) (fun j => by rw [e5, up_c (by decide)])]
    congr 4
    funext j
    rw [e5, up_p]
    rfl
  · have w : ∀ (V : vS) (x : Int), up V 43 10 x c j = V c j := fun V x => by
      rcases v with v | v
      · exact up_c v
      · exact up_j v
    rw [e12, w, k8.2.2.2 c j u, e5, w]
  · unfold spF
    rw [if_pos e]
def fnd (s v mj : Int) : Int := if mj = 1 then s else w32 (s - w32 (jDiv (w64 (w64 (s * (max 0 (min 100 v))) + 99)) 100))
noncomputable def fin (V : vS) (N : Int → Int) (s t : Int) : Int := if t = -1 then s else fnd s (tSay (oT V t) N).1 (N 11)
noncomputable def lin (V : vS) (N : Int → Int) (t : Int) : Int := if t = -1 then -1 else (tSay (oT V t) N).2
def R13 (V : vS) (s t y : Int) (V' : vS) : Prop := y = fin V (fun j => V 43 j) s t ∧ V' 41 7 = lin V (fun j => V 43 j) t ∧ ∀ c j, (c ≠ 33 ∨ (j < 9 ∨ 14 < j)) → (c ≠ 41 ∨ j ≠ 7) → V' c j = V c j
theorem c_13 {n : Nat} {X : aX} {h : aH} {x1 x2 : Int32} {a1 a2 : Int} (S : wS h) (z1 : x1.toInt = a1) (z2 : x2.toInt = a2) (hp : pTx (vw h) a2) : Pt n X zM13 0 [some (.ref 41), some (.int x1), some (.int x2), none] [] h (qI (fun y h' => wS h' ∧ R13 (vw h) a1 a2 y (vw h'))) := by
  have w : ∀ (V : vS) (x : Int) (c : Nat) (j : Int), (c ≠ 41 ∨ j ≠ 7) → up V 41 7 x c j = V c j := fun V x c j v => by
    rcases v with v | v
    · exact up_c v
    · exact up_j v
  refine pt_d (d13_0 S z1 z2 ⟨fun ne h2 S2 e2 => ⟨tOK_k (fun j => by rw [e2, up_c (by decide)]) (fun j => by rw [e2, up_c (by decide)]) (hp ne), fun y9 h9 k9 => ?_⟩, fun e h2 S2 e2 => ⟨S2, ?_, ?_, fun c j _ v => by rw [e2, w _ _ c j v]⟩⟩)
  · have eN : (fun j => vw h2 43 j) = fun j => vw h 43 j := funext fun j => by rw [e2, up_c (by decide)]
    have eo := oT_k (V := vw h) (W := vw h2) (fun j => by rw [e2, up_c (by decide)]) (fun j => by rw [e2, up_c (by decide)]) a2
    obtain ⟨S9, k1, k2, k3⟩ := k9
    rw [eo, eN] at k1 k2
    have e11 : vw h9 43 11 = vw h 43 11 := by rw [k3 43 11 (Or.inl (by decide)), e2, up_c (by decide)]
    rw [e11]
    refine ⟨fun n1 h14 S14 e14 => ⟨S14, ?_, ?_, fun c j u v => ?_⟩, fun e1 h14 S14 e14 => ⟨S14, ?_, ?_, fun c j u v => ?_⟩⟩
    · unfold fin fnd
      rw [if_neg ne, if_neg n1, ← k1]
    · unfold lin
      rw [if_neg ne, e14, up_s]
      exact k2
    · rw [e14, w _ _ c j v, k3 c j u, e2, w _ _ c j v]
    · unfold fin fnd
      rw [if_neg ne, if_pos e1]
    · unfold lin
      rw [if_neg ne, e14, up_s]
      exact k2
    · rw [e14, w _ _ c j v, k3 c j u, e2, w _ _ c j v]
  · unfold fin
    rw [if_pos e]
  · unfold lin
    rw [if_pos e, e2, up_s]


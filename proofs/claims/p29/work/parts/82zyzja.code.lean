-- ===== the reference keeps the texts laid out =====
theorem y262_0 {n : Nat} {X : aX} {h : aH} {P : aH → Prop} (S : wS h) (H : (0 ≤ vw h 72 67 → vw h 72 67 < 17 → ((mpre (vw h) ∧ kpre (vw h)) ∧ ∀ (h_9 : aH), (wS h_9 ∧ mRes 8 (vw h) (vw h_9) ∧ kRes 8 (vw h) (vw h_9)) → (0 ≤ w32 ((w32 (90 * (vw h 72 67))) + (vw h 119 (vw h 72 67))) → w32 ((w32 (90 * (vw h 72 67))) + (vw h 119 (vw h 72 67))) < 1530 → ((0 ≤ vw h_9 72 65 → (0 ≤ vw h_9 72 67 → vw h_9 72 67 < 17 → ∀ h_22 : aH, wS h_22 → vw h_22 = up (up (up (vw h_9) 120 (w32 ((w32 (90 * (vw h 72 67))) + (vw h 119 (vw h 72 67)))) (vw h 72 68)) 121 (w32 ((w32 (90 * (vw h 72 67))) + (vw h 119 (vw h 72 67)))) (vw h_9 72 68)) 119 (vw h_9 72 67) (w32 ((vw h_9 119 (vw h_9 72 67)) + 1)) → P h_22)) ∧ (vw h_9 72 65 < 0 → ∀ h_11 : aH, wS h_11 → vw h_11 = up (vw h_9) 120 (w32 ((w32 (90 * (vw h 72 67))) + (vw h 119 (vw h 72 67)))) (vw h 72 68) → ((mL (vw h_11) ≠ 63 → (0 ≤ vw h_11 72 67 → vw h_11 72 67 < 17 → ∀ h_34 : aH, wS h_34 → vw h_34 = up (up (vw h_11) 121 (w32 ((w32 (90 * (vw h 72 67))) + (vw h 119 (vw h 72 67)))) (vw h_11 72 68)) 119 (vw h_11 72 67) (w32 ((vw h_11 119 (vw h_11 72 67)) + 1)) → P h_34)) ∧ (mL (vw h_11) = 63 → ∀ h_41 : aH, wS h_41 → vw h_41 = up (up (vw h_11) 72 64 (w32 ((vw h_11 72 64) + 1))) 120 (w32 ((w32 (90 * (vw h 72 67))) + (vw h 119 (vw h 72 67)))) (vw h_11 72 68) → ((mpre (vw h_41) ∧ kpre (vw h_41)) ∧ ∀ (h_42 : aH), (wS h_42 ∧ mRes 8 (vw h_41) (vw h_42) ∧ kRes 8 (vw h_41) (vw h_42)) → (0 ≤ vw h_42 72 67 → vw h_42 72 67 < 17 → ∀ h_51 : aH, wS h_51 → vw h_51 = up (up (vw h_42) 121 (w32 ((w32 (90 * (vw h 72 67))) + (vw h 119 (vw h 72 67)))) (vw h_42 72 68)) 119 (vw h_42 72 67) (w32 ((vw h_42 119 (vw h_42 72 67)) + 1)) → P h_51)))))))))) : Pt (n + 1) X zM262 0 [some (.ref 72), none, none] [] h (qN P) := by
  refine pt_bipush gx262_0 (fun v1 h1 => ?_)
  refine pt_d (pt_1 (fun n d => r_aloadn gx262_2 rfl) ?_)
  refine pt_d (pt_getI (B := 67) gx262_3 S (fun v2 h2 => ?_))
  refine pt_d (pt_imul gx262_6 h1 h2 (fun v3 h3 => ?_))
  refine pt_d (pt_1 (fun n d => r_aloadn gx262_7 rfl) ?_)
  refine pt_d (pt_getR gx262_8 S tr_72_59 ?_)
  refine pt_d (pt_1 (fun n d => r_aloadn gx262_11 rfl) ?_)
  refine pt_d (pt_getI (B := 67) gx262_12 S (fun v5 h5 => ?_))
  refine pt_d (pt_iald (N' := 17) gx262_15 S tl_119 h5 (fun v6 p6 q6 h6 => ?_))
  have H := H p6 q6
  refine pt_d (pt_iadd gx262_16 h3 h6 (fun v7 h7 => ?_))
  refine pt_d (pt_1 (fun n d => r_istoren (L' := [some (.ref 72), some (.int v7), none]) gx262_17 rfl rfl) ?_)
  refine pt_d (pt_1 (fun n d => r_aloadn gx262_18 rfl) ?_)
  refine pt_d (pt_getI (B := 68) gx262_19 S (fun v8 h8 => ?_))
  refine pt_d (pt_1 (fun n d => r_istoren (L' := [some (.ref 72), some (.int v7), some (.int v8)]) gx262_22 rfl rfl) ?_)
  refine pt_d (pt_1 (fun n d => r_aloadn gx262_23 rfl) ?_)
  obtain ⟨pr9, H⟩ := H
  refine pt_d (pt_virt (as := []) (r := []) gx262_24 rfl (show zmt[261]? = some zM261 from rfl) rfl rfl rfl rfl ((mk_gram X _).2.2.2.2.2.1 S pr9) (kqN (fun h_9 P9 => ?_)))
  have S9 := P9.1
  have H := H h_9 P9
  show Pt _ _ _ 27 _ [] _ _
  refine pt_d (pt_1 (fun n d => r_aloadn gx262_27 rfl) ?_)
  refine pt_d (pt_getR gx262_28 S9 tr_72_60 ?_)
  refine pt_d (pt_1 (fun n d => r_iloadn gx262_31 rfl) ?_)
  refine pt_d (pt_1 (fun n d => r_iloadn gx262_32 rfl) ?_)
  refine pt_d (pt_iast (N' := 1530) gx262_33 S9 tl_120 h7 h8 (fun h_11 S11 p11 q11 e11 => ?_))
  have H := H p11 q11
  refine pt_d (pt_1 (fun n d => r_aloadn gx262_34 rfl) ?_)
  refine pt_d (pt_getI (B := 65) gx262_35 S11 (fun v12 h12 => ?_))
  have h12 : v12.toInt = vw h_9 72 65 := by rw [h12, e11, up_c (by decide)]
  refine pt_d (pt_if_ge gx262_38 h12 (fun e13 => ?_) (fun e13 => ?_))
  · have H := H.1 e13
    refine pt_d (pt_1 (fun n d => r_aloadn gx262_74 rfl) ?_)
    refine pt_d (pt_getR gx262_75 S11 tr_72_61 ?_)
    refine pt_d (pt_1 (fun n d => r_iloadn gx262_78 rfl) ?_)
    refine pt_d (pt_1 (fun n d => r_aloadn gx262_79 rfl) ?_)
    refine pt_d (pt_getI (B := 68) gx262_80 S11 (fun v15 h15 => ?_))
    have h15 : v15.toInt = vw h_9 72 68 := by rw [h15, e11, up_c (by decide)]
    refine pt_d (pt_iast (N' := 1530) gx262_83 S11 tl_121 h7 h15 (fun h_16 S16 p16 q16 e16 => ?_))
    refine pt_d (pt_1 (fun n d => r_aloadn gx262_84 rfl) ?_)
    refine pt_d (pt_getR gx262_85 S16 tr_72_59 ?_)
    refine pt_d (pt_1 (fun n d => r_aloadn gx262_88 rfl) ?_)
    refine pt_d (pt_getI (B := 67) gx262_89 S16 (fun v18 h18 => ?_))
    have h18 : v18.toInt = vw h_9 72 67 := by rw [h18, e16, up_c (by decide), e11, up_c (by decide)]
    refine pt_d (pt_1 (fun n d => r_dup2 gx262_92 rfl) ?_)
    refine pt_d (pt_iald (N' := 17) gx262_93 S16 tl_119 h18 (fun v19 p19 q19 h19 => ?_))
    have H := H p19 q19
    have h19 : v19.toInt = vw h_9 119 (vw h_9 72 67) := by rw [h19, e16, up_c (by decide), e11, up_c (by decide)]
    refine pt_d (pt_iconst gx262_94 (fun v20 h20 => ?_))
    refine pt_d (pt_iadd gx262_95 h19 h20 (fun v21 h21 => ?_))
    refine pt_d (pt_iast (N' := 17) gx262_96 S16 tl_119 h18 h21 (fun h_22 S22 p22 q22 e22 => ?_))
    have H := H h_22 S22 (by rw [e22, e16, e11])
    exact pt_d (pt_vret gx262_97 ⟨rfl, H⟩)
  · have H := H.2 e13
    refine pt_d (pt_1 (fun n d => r_aloadn gx262_41 rfl) ?_)
    have H := H h_11 S11 (by rw [e11])
    refine pt_d (pt_virt (as := []) (r := []) gx262_42 rfl (show zmt[251]? = some zM251 from rfl) rfl rfl rfl rfl (c_251 S11) (kqP (fun v23 h23 => ?_)))
    show Pt _ _ _ 45 _ [.int v23] _ _
    refine pt_d (pt_bipush gx262_45 (fun v24 h24 => ?_))
    refine pt_d (pt_icmp_ne gx262_47 h23 h24 (fun e25 => ?_) (fun e25 => ?_))
    · have H := H.1 e25
      refine pt_d (pt_1 (fun n d => r_aloadn gx262_74 rfl) ?_)
      refine pt_d (pt_getR gx262_75 S11 tr_72_61 ?_)
      refine pt_d (pt_1 (fun n d => r_iloadn gx262_78 rfl) ?_)
      refine pt_d (pt_1 (fun n d => r_aloadn gx262_79 rfl) ?_)
      refine pt_d (pt_getI (B := 68) gx262_80 S11 (fun v27 h27 => ?_))
      refine pt_d (pt_iast (N' := 1530) gx262_83 S11 tl_121 h7 h27 (fun h_28 S28 p28 q28 e28 => ?_))
      refine pt_d (pt_1 (fun n d => r_aloadn gx262_84 rfl) ?_)
      refine pt_d (pt_getR gx262_85 S28 tr_72_59 ?_)
      refine pt_d (pt_1 (fun n d => r_aloadn gx262_88 rfl) ?_)
      refine pt_d (pt_getI (B := 67) gx262_89 S28 (fun v30 h30 => ?_))
      have h30 : v30.toInt = vw h_11 72 67 := by rw [h30, e28, up_c (by decide)]
      refine pt_d (pt_1 (fun n d => r_dup2 gx262_92 rfl) ?_)
      refine pt_d (pt_iald (N' := 17) gx262_93 S28 tl_119 h30 (fun v31 p31 q31 h31 => ?_))
      have H := H p31 q31
      have h31 : v31.toInt = vw h_11 119 (vw h_11 72 67) := by rw [h31, e28, up_c (by decide)]
      refine pt_d (pt_iconst gx262_94 (fun v32 h32 => ?_))
      refine pt_d (pt_iadd gx262_95 h31 h32 (fun v33 h33 => ?_))
      refine pt_d (pt_iast (N' := 17) gx262_96 S28 tl_119 h30 h33 (fun h_34 S34 p34 q34 e34 => ?_))
      have H := H h_34 S34 (by rw [e34, e28])
      exact pt_d (pt_vret gx262_97 ⟨rfl, H⟩)
    · have H := H.2 e25
      refine pt_d (pt_1 (fun n d => r_aloadn gx262_50 rfl) ?_)
      refine pt_d (pt_1 (fun n d => r_dup gx262_51 rfl) ?_)
      refine pt_d (pt_getI (B := 64) gx262_52 S11 (fun v35 h35 => ?_))
      refine pt_d (pt_iconst gx262_55 (fun v36 h36 => ?_))
      refine pt_d (pt_iadd gx262_56 h35 h36 (fun v37 h37 => ?_))
      refine pt_d (pt_putI (B := 64) gx262_57 S11 h37 (fun h_38 S38 e38 => ?_))
      refine pt_d (pt_1 (fun n d => r_aloadn gx262_60 rfl) ?_)
      refine pt_d (pt_getR gx262_61 S38 tr_72_60 ?_)
      refine pt_d (pt_1 (fun n d => r_iloadn gx262_64 rfl) ?_)
      refine pt_d (pt_1 (fun n d => r_aloadn gx262_65 rfl) ?_)
      refine pt_d (pt_getI (B := 68) gx262_66 S38 (fun v40 h40 => ?_))
      have h40 : v40.toInt = vw h_11 72 68 := by rw [h40, e38, up_j (by decide)]
      refine pt_d (pt_iast (N' := 1530) gx262_69 S38 tl_120 h7 h40 (fun h_41 S41 p41 q41 e41 => ?_))
      refine pt_d (pt_1 (fun n d => r_aloadn gx262_70 rfl) ?_)
      have H := H h_41 S41 (by rw [e41, e38])
      obtain ⟨pr42, H⟩ := H
      refine pt_d (pt_virt (as := []) (r := []) gx262_71 rfl (show zmt[261]? = some zM261 from rfl) rfl rfl rfl rfl ((mk_gram X _).2.2.2.2.2.1 S41 pr42) (kqN (fun h_42 P42 => ?_)))
      have S42 := P42.1
      have H := H h_42 P42
      show Pt _ _ _ 74 _ [] _ _
      refine pt_d (pt_1 (fun n d => r_aloadn gx262_74 rfl) ?_)
      refine pt_d (pt_getR gx262_75 S42 tr_72_61 ?_)
      refine pt_d (pt_1 (fun n d => r_iloadn gx262_78 rfl) ?_)
      refine pt_d (pt_1 (fun n d => r_aloadn gx262_79 rfl) ?_)
      refine pt_d (pt_getI (B := 68) gx262_80 S42 (fun v44 h44 => ?_))
      refine pt_d (pt_iast (N' := 1530) gx262_83 S42 tl_121 h7 h44 (fun h_45 S45 p45 q45 e45 => ?_))
      refine pt_d (pt_1 (fun n d => r_aloadn gx262_84 rfl) ?_)
      refine pt_d (pt_getR gx262_85 S45 tr_72_59 ?_)
      refine pt_d (pt_1 (fun n d => r_aloadn gx262_88 rfl) ?_)
      refine pt_d (pt_getI (B := 67) gx262_89 S45 (fun v47 h47 => ?_))
      have h47 : v47.toInt = vw h_42 72 67 := by rw [h47, e45, up_c (by decide)]
      refine pt_d (pt_1 (fun n d => r_dup2 gx262_92 rfl) ?_)
      refine pt_d (pt_iald (N' := 17) gx262_93 S45 tl_119 h47 (fun v48 p48 q48 h48 => ?_))
      have H := H p48 q48
      have h48 : v48.toInt = vw h_42 119 (vw h_42 72 67) := by rw [h48, e45, up_c (by decide)]
      refine pt_d (pt_iconst gx262_94 (fun v49 h49 => ?_))
      refine pt_d (pt_iadd gx262_95 h48 h49 (fun v50 h50 => ?_))
      refine pt_d (pt_iast (N' := 17) gx262_96 S45 tl_119 h47 h50 (fun h_51 S51 p51 q51 e51 => ?_))
      have H := H h_51 S51 (by rw [e51, e45])
      exact pt_d (pt_vret gx262_97 ⟨rfl, H⟩)
def kLine (V V' : vS) : Prop := kpre V' ∧ V' 72 67 = V 72 67 ∧ V 72 68 ≤ V' 72 68 ∧ (∀ j, V' 119 j = if j = V 72 67 then V 119 (V 72 67) + 1 else V 119 j) ∧ (∀ j, j < 90 * V 72 67 + V 119 (V 72 67) → V' 120 j = V 120 j ∧ V' 121 j = V 121 j) ∧ (∀ j, j < 170 * V 72 67 + V 72 68 → V' 122 j = V 122 j ∧ V' 123 j = V 123 j) ∧ (V' 72 65 < 0 → ∃ q, ∃ M L : List (Int × Int), ln1 (mT V) (V 72 64) q (M, L) ∧ V' 72 64 = q ∧ V' 120 (90 * V 72 67 + V 119 (V 72 67)) = V 72 68 + (M.length : Int) ∧ V' 121 (90 * V 72 67 + V 119 (V 72 67)) = V 72 68 + (M.length : Int) + (L.length : Int) ∧ V' 72 68 = V 72 68 + (M.length : Int) + (L.length : Int) ∧ cAt V' (170 * V 72 67 + V 72 68) (M ++ L))
theorem rl_e {V W V' : vS} (K : kpre V) (hA : ∀ c j, (c = 119 ∨ c = 121 ∨ (c = 72 ∧ j = 67)) → W c j = V c j) (hB : ∀ j, j < 90 * V 72 67 + V 119 (V 72 67) → W 120 j = V 120 j) (hC : ∀ j, j < 170 * V 72 67 + V 72 68 → W 122 j = V 122 j ∧ W 123 j = V 123 j) (hD : V 72 68 ≤ W 72 68 ∧ W 72 68 ≤ W 72 64) (hE : V' = up (up W 121 (90 * V 72 67 + V 119 (V 72 67)) (W 72 68)) 119 (V 72 67) (V 119 (V 72 67) + 1)) (hS : W 72 65 < 0 → ∃ q, ∃ M L : List (Int × Int), ln1 (mT V) (V 72 64) q (M, L) ∧ W 72 64 = q ∧ W 120 (90 * V 72 67 + V 119 (V 72 67)) = V 72 68 + (M.length : Int) ∧ W 72 68 = V 72 68 + (M.length : Int) + (L.length : Int) ∧ cAt W (170 * V 72 67 + V 72 68) (M ++ L)) : kLine V V' := by
  have e72 : ∀ j, V' 72 j = W 72 j := fun j => by rw [hE, up_c (by decide), up_c (by decide)]
  have e120 : ∀ j, V' 120 j = W 120 j := fun j => by rw [hE, up_c (by decide), up_c (by decide)]
  have e12 : ∀ c j, (c = 122 ∨ c = 123) → V' c j = W c j := fun c j z => by rw [hE, up_c (by omega), up_c (by omega)]
  have e121 : ∀ j, V' 121 j = if j = 90 * V 72 67 + V 119 (V 72 67) then W 72 68 else W 121 j := fun j => by rw [hE, up_c (by decide), up_p]
  have e119 : ∀ j, V' 119 j = if j = V 72 67 then V 119 (V 72 67) + 1 else W 119 j := fun j => by rw [hE, up_p, up_c (by decide)]
  have e67 : W 72 67 = V 72 67 := hA 72 67 (by omega)
  have k := K.2
  refine ⟨⟨by rw [e72, e67]; exact K.1, by rw [e72]; omega, by rw [e72, e72]; exact hD.2⟩, by rw [e72]; exact e67, by rw [e72]; exact hD.1, fun j => ?_, fun j u => ⟨by rw [e120]; exact hB j u, ?_⟩, fun j u => ?_, fun n => ?_⟩
  · rw [e119, hA 119 j (Or.inl rfl)]
  · rw [e121, if_neg (by omega)]
    exact hA 121 j (by omega)
  · rw [e12 122 j (by omega), e12 123 j (by omega)]
    exact hC j u
  · rw [e72] at n
    obtain ⟨q, M, L, a1, a2, a3, a4, a5⟩ := hS n
    exact ⟨q, M, L, a1, by rw [e72]; exact a2, by rw [e120]; exact a3, by rw [e121, if_pos rfl]; exact a4, by rw [e72]; exact a4, cAt_k _ _ (fun j _ _ => ⟨e12 122 j (by omega), e12 123 j (by omega)⟩) a5⟩
def lpre (V : vS) : Prop := (mpre V ∧ kpre V) ∧ V 72 66 = 0 ∧ 0 ≤ V 119 (V 72 67) ∧ 2 * V 119 (V 72 67) ≤ V 72 64
theorem c_262v {n : Nat} {X : aX} {h : aH} (S : wS h) (hp : lpre (vw h)) : Pt n X zM262 0 [some (.ref 72), none, none] [] h (qN (fun h' => wS h' ∧ mRes 10 (vw h) (vw h') ∧ kLine (vw h) (vw h'))) := by
  obtain ⟨⟨hm, K⟩, o0, m0, m2⟩ := hp
  refine pt_q (pt_and (c_262 S hm) (show Pt n X zM262 0 [some (.ref 72), none, none] [] h (qN (fun h' => kLine (vw h) (vw h'))) from ?_)) ?_
  · have h64 := hm.2.2.1
    have h160 := hm.2.2.2
    have kr := K.1
    have kl := K.2
    have ei : w32 (w32 (90 * vw h 72 67) + vw h 119 (vw h 72 67)) = 90 * vw h 72 67 + vw h 119 (vw h 72 67) := by rw [w32_id (z := 90 * vw h 72 67) (by omega) (by omega), w32_id (by omega) (by omega)]
    have wm : w32 (vw h 119 (vw h 72 67) + 1) = vw h 119 (vw h 72 67) + 1 := w32_id (by omega) (by omega)
    have H0 := y262_0 (n := n) (X := X) (h := h) S (P := fun h' => kLine (vw h) (vw h'))
    rw [ei] at H0
    refine pt_d (H0 (fun _ _ => ⟨⟨hm, K⟩, fun h9 k9 _ _ => ?_⟩))
    obtain ⟨S9, c9, r9⟩ := k9
    have H := mRes_p hm c9
    have F1 : mfr (vw h) (vw h9) := c9.1
    have e67 := kFs_67 r9.1
    have f3 := r9.1.2.2.1
    have f4 := r9.1.2.2.2
    have e119 : vw h9 119 (vw h 72 67) = vw h 119 (vw h 72 67) := r9.1.1 119 _ (Or.inl rfl)
    refine ⟨fun ge _ _ g S2 eg => ?_, fun lt h11 S11 e11 => ?_⟩
    · rw [e67, e119, wm] at eg
      have u : ∀ c j, c ≠ 120 → up (vw h9) 120 (90 * vw h 72 67 + vw h 119 (vw h 72 67)) (vw h 72 68) c j = vw h9 c j := fun c j z => up_c z
      refine rl_e (W := up (vw h9) 120 (90 * vw h 72 67 + vw h 119 (vw h 72 67)) (vw h 72 68)) K (fun c j z => by rw [u c j (by omega)]; exact r9.1.1 c j (by omega)) (fun j z => by rw [up_j (by omega)]; exact r9.1.1 120 j (by omega)) (fun j z => by rw [u 122 j (by decide), u 123 j (by decide)]; exact r9.1.2.1 j z) (by rw [u 72 68 (by decide), u 72 64 (by decide)]; omega) (by rw [u 72 68 (by decide)]; exact eg) (fun z => by rw [u 72 65 (by decide)] at z; omega)
    · have x11 : ∀ c j, c ≠ 120 → vw h11 c j = vw h9 c j := fun c j z => by rw [e11]; exact up_c z
      have s11 : vw h11 120 (90 * vw h 72 67 + vw h 119 (vw h 72 67)) = vw h 72 68 := by rw [e11, up_s]
      have F11 : mfr (vw h9) (vw h11) := by rw [e11]; exact mfr_a (mfr_r _) (Or.inr (Or.inl rfl))
      have m11 := mL_b F11 (x11 72 64 (by decide))
      obtain ⟨q1, L1, d1, a1, a2, a3⟩ := r9.2 lt
      rw [o0] at d1
      have mq : mL (vw h9) = mT (vw h) q1 := by rw [mL_T H.2.2.1.1, mfr_T F1, a1]
      rw [m11]
      refine ⟨fun n63 _ _ g S2 eg => ?_, fun e63 h41 S41 e41 => ?_⟩
      · rw [x11 72 67 (by decide), x11 119 _ (by decide), e67, e119, wm] at eg
        refine rl_e (W := vw h11) K (fun c j z => by rw [x11 c j (by omega)]; exact r9.1.1 c j (by omega)) (fun j z => by rw [e11, up_j (by omega)]; exact r9.1.1 120 j (by omega)) (fun j z => by rw [x11 122 j (by decide), x11 123 j (by decide)]; exact r9.1.2.1 j z) (by rw [x11 72 68 (by decide), x11 72 64 (by decide)]; omega) eg (fun _ => ⟨q1, [], L1, Or.inl ⟨rfl, d1, fun z => n63 (mq.trans z)⟩, (x11 72 64 (by decide)).trans a1, ?_, ?_, ?_⟩)
        · rw [s11]
          show _ = vw h 72 68 + ((0 : Nat) : Int)
          omega
        · rw [x11 72 68 (by decide), a2]
          show _ = vw h 72 68 + ((0 : Nat) : Int) + _
          omega
        · exact cAt_k _ _ (fun j _ _ => ⟨x11 122 j (by decide), x11 123 j (by decide)⟩) a3
      · obtain ⟨k1, k2, k3, k4, k5, k6, k7, k8⟩ := m_here H lt (by decide) e63 (V4 := up (vw h9) 72 64 (w32 (vw h9 72 64 + 1))) rfl
        rw [x11 72 64 (by decide), x11 72 68 (by decide)] at e41
        have w9 : w32 (vw h9 72 64 + 1) = vw h9 72 64 + 1 := by
          have b := k2.2.2.1
          have b2 := k2.2.2.2
          rw [k4] at b
          have b3 := H.2.2
          rw [w32_id (by omega) (by omega)]
        rw [w9] at e41
        have x41 : ∀ c j, c ≠ 120 → (c = 72 → j ≠ 64) → vw h41 c j = vw h9 c j := fun c j z1 z2 => by
          rw [e41, up_c z1]
          by_cases w : c = 72
          · subst w
            rw [up_j (z2 rfl)]
            exact x11 72 j z1
          · rw [up_c w]
            exact x11 c j z1
        have s41 : vw h41 120 (90 * vw h 72 67 + vw h 119 (vw h 72 67)) = vw h9 72 68 := by rw [e41, up_s]
        have t41 : vw h41 72 64 = vw h9 72 64 + 1 := by rw [e41, up_c (by decide), up_s]
        have b41 : ∀ j, j < 90 * vw h 72 67 + vw h 119 (vw h 72 67) → vw h41 120 j = vw h 120 j := fun j z => by
          rw [e41, up_j (by omega), up_c (by decide), e11, up_j (by omega)]
          exact r9.1.1 120 j (by omega)
        have y41 : ∀ j, j ≠ 64 → vw h41 72 j = vw h9 72 j := fun j z => x41 72 j (by decide) (fun _ => z)
        have T41 : mT (vw h41) = mT (vw h) := by
          rw [← mfr_T F1]
          funext p
          unfold mT
          rw [y41 54 (by decide), x41 115 p (by decide) (fun e => absurd e (by decide))]
        have hm41 : mpre (vw h41) := by
          have b2 := k2.2.2
          rw [k4, k7] at b2
          refine ⟨by rw [y41 65 (by decide)]; have := H.1; omega, by rw [y41 66 (by decide)]; exact H.2.1 lt, by rw [t41, y41 54 (by decide)]; exact b2.1, by rw [y41 54 (by decide)]; exact H.2.2.2⟩
        have K41 : kpre (vw h41) := ⟨by rw [y41 67 (by decide), e67]; exact kr, by rw [y41 68 (by decide)]; omega, by rw [y41 68 (by decide), t41]; omega⟩
        refine ⟨⟨hm41, K41⟩, fun h42 k42 _ _ g S2 eg => ?_⟩
        obtain ⟨S42, c42, r42⟩ := k42
        have g67 := kFs_67 r42.1
        have g3 := r42.1.2.2.1
        have g4 := r42.1.2.2.2
        rw [y41 68 (by decide)] at g3 g4
        rw [t41] at g4
        have g119 : ∀ j, vw h42 119 j = vw h 119 j := fun j => (r42.1.1 119 j (Or.inl rfl)).trans ((x41 119 j (by decide) (fun e => absurd e (by decide))).trans (r9.1.1 119 j (Or.inl rfl)))
        rw [g67, y41 67 (by decide), e67, g119, wm] at eg
        have bl : ∀ j, j < 170 * vw h 72 67 + vw h9 72 68 → vw h42 122 j = vw h9 122 j ∧ vw h42 123 j = vw h9 123 j := fun j z => by
          have y := r42.1.2.1 j (by rw [y41 67 (by decide), y41 68 (by decide), e67]; exact z)
          rw [x41 122 j (by decide) (fun e => absurd e (by decide)), x41 123 j (by decide) (fun e => absurd e (by decide))] at y
          exact y
        refine rl_e (W := vw h42) K (fun c j z => ?_) (fun j z => (r42.1.1 120 j (by omega)).trans (b41 j z)) (fun j z => ?_) (by omega) eg (fun n => ?_)
        · rcases z with rfl | rfl | ⟨rfl, rfl⟩
          · exact g119 j
          · exact (r42.1.1 121 j (by omega)).trans ((x41 121 j (by decide) (fun e => absurd e (by decide))).trans (r9.1.1 121 j (by omega)))
          · rw [g67, y41 67 (by decide), e67]
        · have y := bl j (by omega)
          have x := r9.1.2.1 j z
          exact ⟨y.1.trans x.1, y.2.trans x.2⟩
        · obtain ⟨q2, L2, d2, b1, b2, b3⟩ := r42.2 n
          have o41 : vw h41 72 66 = 0 := by
            rw [y41 66 (by decide)]
            obtain ⟨q, f, p1, e1, e2, e3, b⟩ := c9.2
            rw [e3 (by omega)]
            exact o0
          rw [T41, o41, t41, a1] at d2
          rw [y41 68 (by decide), a2] at b2
          rw [y41 67 (by decide), y41 68 (by decide), e67, a2] at b3
          refine ⟨q2, L1, L2, Or.inr ⟨q1, d1, by rw [← mq]; exact e63, d2⟩, b1, ?_, b2, ?_⟩
          · rw [r42.1.1 120 _ (by omega), s41, a2]
          · rw [cAt_a]
            refine ⟨cAt_k _ _ (fun j u v => bl j (by omega)) a3, ?_⟩
            rw [show 170 * vw h 72 67 + vw h 72 68 + (L1.length : Int) = 170 * vw h 72 67 + (vw h 72 68 + (L1.length : Int)) by omega]
            exact b3
  · rintro v h' ⟨⟨ev, p1, p2⟩, ⟨_, p3⟩⟩
    exact ⟨ev, p1, p2, p3⟩


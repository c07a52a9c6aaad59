-- ===== the reference lays a text out =====
theorem c_255v {n : Nat} {X : aX} {h : aH} {x0 : Int32} {a0 : Int} (S : wS h) (z0 : x0.toInt = a0) : Pt n X zM255 0 [some (.int x0)] [] h (qI (fun y h' => wS h' ∧ h' = h ∧ R255 a0 y ∧ y = nmV a0)) :=
  pt_d (d255_0 S z0 ⟨fun e => ⟨S, rfl, Or.inl ⟨by rw [e]; rfl, by decide⟩, by rw [e]; decide⟩, fun n98 => ⟨fun e => ⟨S, rfl, Or.inl ⟨by rw [e]; rfl, by decide⟩, by rw [e]; decide⟩, fun n99 => ⟨fun e => ⟨S, rfl, Or.inr ⟨by rw [e]; rfl, by decide⟩, by rw [e]; decide⟩, fun n100 => ⟨fun e => ⟨S, rfl, Or.inl ⟨by rw [e]; rfl, by decide⟩, by rw [e]; decide⟩, fun n101 => ⟨fun e => ⟨S, rfl, Or.inl ⟨by rw [e]; rfl, by decide⟩, by rw [e]; decide⟩, fun n102 => ⟨fun e => ⟨S, rfl, Or.inl ⟨by rw [e]; rfl, by decide⟩, by rw [e]; decide⟩, fun n103 => ⟨fun e => ⟨S, rfl, Or.inr ⟨by rw [e]; rfl, by decide⟩, by rw [e]; decide⟩, fun n104 => ⟨fun e => ⟨S, rfl, Or.inr ⟨by rw [e]; rfl, by decide⟩, by rw [e]; decide⟩, fun n105 => ⟨fun e => ⟨S, rfl, Or.inl ⟨by rw [e]; rfl, by decide⟩, by rw [e]; decide⟩, fun n106 => ⟨fun e => ⟨S, rfl, Or.inl ⟨by rw [e]; rfl, by decide⟩, by rw [e]; decide⟩, fun n107 => ⟨fun e => ⟨S, rfl, Or.inl ⟨by rw [e]; rfl, by decide⟩, by rw [e]; decide⟩, fun n108 => ⟨fun e => ⟨S, rfl, Or.inl ⟨by rw [e]; rfl, by decide⟩, by rw [e]; decide⟩, fun n109 => ⟨fun e => ⟨S, rfl, Or.inr ⟨by rw [e]; rfl, by decide⟩, by rw [e]; decide⟩, fun n110 => ⟨fun e => ⟨S, rfl, Or.inr ⟨by rw [e]; rfl, by decide⟩, by rw [e]; decide⟩, fun n111 => ⟨fun e => ⟨S, rfl, Or.inl ⟨by rw [e]; rfl, by decide⟩, by rw [e]; decide⟩, fun n112 => ⟨fun e => ⟨S, rfl, Or.inr ⟨by rw [e]; rfl, by decide⟩, by rw [e]; decide⟩, fun n113 => ⟨fun e => ⟨S, rfl, Or.inr ⟨by rw [e]; rfl, by decide⟩, by rw [e]; decide⟩, fun n114 => ⟨fun e => ⟨S, rfl, Or.inl ⟨by rw [e]; rfl, by decide⟩, by rw [e]; decide⟩, fun n115 => ⟨fun e => ⟨S, rfl, Or.inl ⟨by rw [e]; rfl, by decide⟩, by rw [e]; decide⟩, fun n116 => ⟨fun e => ⟨S, rfl, Or.inr ⟨by rw [e]; rfl, by decide⟩, by rw [e]; decide⟩, fun n117 => ⟨fun e => ⟨S, rfl, Or.inr ⟨by rw [e]; rfl, by decide⟩, by rw [e]; decide⟩, fun n118 => ⟨fun e => ⟨S, rfl, Or.inr ⟨by rw [e]; rfl, by decide⟩, by rw [e]; decide⟩, fun n119 => ⟨fun e => ⟨S, rfl, Or.inr ⟨by rw [e]; rfl, by decide⟩, by rw [e]; decide⟩, fun n120 => ⟨fun e => ⟨S, rfl, Or.inl ⟨by rw [e]; rfl, by decide⟩, by rw [e]; decide⟩, fun n121 => ⟨S, rfl, Or.inr ⟨(by unfold nmB; simp only [beq_false_of_ne n121, beq_false_of_ne n107, beq_false_of_ne n115, beq_false_of_ne n102, beq_false_of_ne n103, beq_false_of_ne n99, beq_false_of_ne n116, beq_false_of_ne n108, beq_false_of_ne n101, beq_false_of_ne n112, beq_false_of_ne n109, beq_false_of_ne n106, beq_false_of_ne n98, Bool.or_false]), by decide⟩, (by unfold nmV; rw [if_neg n121, if_neg n107, if_neg n115, if_neg n102, if_neg n103, if_neg n99, if_neg n116, if_neg n108, if_neg n101, if_neg n112, if_neg n109, if_neg n106, if_neg n98])⟩⟩⟩⟩⟩⟩⟩⟩⟩⟩⟩⟩⟩⟩⟩⟩⟩⟩⟩⟩⟩⟩⟩⟩⟩)
theorem y256_0 {n : Nat} {X : aX} {h : aH} {P : aH → Prop} (S : wS h) (K256 : mv256 n X) (K261 : mv261 n X) (H : ∀ (y2 : Int) (h_2 : aH), (wS h_2 ∧ h_2 = h ∧ R255 (mL (vw h)) y2 ∧ y2 = nmV (mL (vw h))) → ((y2 < 0 → ((mL (vw h) = 33 → ∀ (y6 : Int) (h_6 : aH), (wS h_6 ∧ R254 (vw h_2) y6 (vw h_6)) → ((y6 ≠ 0 → ((mpre (vw h_6) ∧ kpre (vw h_6)) ∧ ∀ (h_8 : aH), (wS h_8 ∧ mRes 0 (vw h_6) (vw h_8) ∧ kRes 0 (vw h_6) (vw h_8)) → ((mL (vw h) ≠ 33 → ∀ h_12 : aH, wS h_12 → vw h_12 = up (vw h_8) 72 66 (w32 ((vw h_8 72 66) - 1)) → ∀ (h_17 : aH), (wS h_17 ∧ RLay (vw h_12) 4 0 (vw h_17)) → P h_17) ∧ (mL (vw h) = 33 → ∀ h_12 : aH, wS h_12 → vw h_12 = up (vw h_8) 72 66 (w32 ((vw h_8 72 66) - 1)) → ∀ (h_20 : aH), (wS h_20 ∧ RLay (vw h_12) 3 0 (vw h_20)) → P h_20)))) ∧ (y6 = 0 → P h_6))) ∧ (mL (vw h) ≠ 33 → ((mL (vw h) ≠ 45 → ((mL (vw h) ≠ 40 → (∀ (w1 : Int32) (w2 : Int32) (w3 : Int32), w1.toInt = mL (vw h) → w2.toInt = 0 → w3.toInt = 0 → Pt n X zM256 148 [some (.ref 72), some (.int w1), some (.int w2), some (.int w3)] [] h_2 (qN P))) ∧ (mL (vw h) = 40 → ∀ (y27 : Int) (h_27 : aH), (wS h_27 ∧ R254 (vw h_2) y27 (vw h_27)) → ((y27 ≠ 0 → ((mpre (vw h_27) ∧ kpre (vw h_27)) ∧ ∀ (h_29 : aH), (wS h_29 ∧ mRes 8 (vw h_27) (vw h_29) ∧ kRes 8 (vw h_27) (vw h_29)) → ((vw h_29 72 65 < 0 → ((mL (vw h_29) = 41 → ∀ h_42 : aH, wS h_42 → vw h_42 = up (up (vw h_29) 72 66 (w32 ((vw h_29 72 66) - 1))) 72 64 (w32 ((vw h_29 72 64) + 1)) → P h_42) ∧ (mL (vw h_29) ≠ 41 → ∀ (h_43 : aH), (wS h_43 ∧ R252 (vw h_29) (vw h_43)) → P h_43))) ∧ (0 ≤ vw h_29 72 65 → P h_29)))) ∧ (y27 = 0 → P h_27))))) ∧ (mL (vw h) = 45 → ∀ (y44 : Int) (h_44 : aH), (wS h_44 ∧ R254 (vw h_2) y44 (vw h_44)) → ((y44 ≠ 0 → ((mpre (vw h_44) ∧ kpre (vw h_44)) ∧ ∀ (h_46 : aH), (wS h_46 ∧ mRes 0 (vw h_44) (vw h_46) ∧ kRes 0 (vw h_44) (vw h_46)) → ((mL (vw h) ≠ 33 → ∀ h_50 : aH, wS h_50 → vw h_50 = up (vw h_46) 72 66 (w32 ((vw h_46 72 66) - 1)) → ∀ (h_55 : aH), (wS h_55 ∧ RLay (vw h_50) 4 0 (vw h_55)) → P h_55) ∧ (mL (vw h) = 33 → ∀ h_50 : aH, wS h_50 → vw h_50 = up (vw h_46) 72 66 (w32 ((vw h_46 72 66) - 1)) → ∀ (h_58 : aH), (wS h_58 ∧ RLay (vw h_50) 3 0 (vw h_58)) → P h_58)))) ∧ (y44 = 0 → P h_44))))))) ∧ (0 ≤ y2 → ∀ (y60 : Int) (h_60 : aH), (wS h_60 ∧ h_60 = h_2 ∧ R255 (mL (vw h)) y60 ∧ y60 = nmV (mL (vw h))) → ∀ (h_61 : aH), (wS h_61 ∧ RLay (vw h_60) 2 y60 (vw h_61)) → ∀ h_65 : aH, wS h_65 → vw h_65 = up (vw h_61) 72 64 (w32 ((vw h_61 72 64) + 1)) → P h_65))) : Pt (n + 1) X zM256 0 [some (.ref 72), none, none, none] [] h (qN P) := by
  refine pt_1 (fun n d => r_aloadn gx256_0 rfl) ?_
  refine pt_d (pt_virt (as := []) (r := []) gx256_1 rfl (show zmt[251]? = some zM251 from rfl) rfl rfl rfl rfl (c_251 S) (kqP (fun v1 h1 => ?_)))
  show Pt _ _ _ 4 _ [.int v1] _ _
  refine pt_d (pt_1 (fun n d => r_istoren (L' := [some (.ref 72), some (.int v1), none, none]) gx256_4 rfl rfl) ?_)
  refine pt_d (pt_1 (fun n d => r_iloadn gx256_5 rfl) ?_)
  refine pt_d (pt_stat (as := [.int v1]) (r := []) gx256_6 rfl (show zmt[255]? = some zM255 from rfl) rfl rfl rfl rfl (c_255v S h1) (kqI (fun v2 y2 h_2 h2 P2 => ?_)))
  have S2 := P2.1
  have H := H y2 h_2 P2
  show Pt _ _ _ 9 _ [.int v2] _ _
  refine pt_d (pt_if_lt gx256_9 h2 (fun e3 => ?_) (fun e3 => ?_))
  · have H := H.1 e3
    refine pt_d (pt_1 (fun n d => r_iloadn gx256_32 rfl) ?_)
    refine pt_d (pt_bipush gx256_33 (fun v4 h4 => ?_))
    refine pt_d (pt_icmp_eq gx256_35 h1 h4 (fun e5 => ?_) (fun e5 => ?_))
    · have H := H.1 e5
      refine pt_d (pt_1 (fun n d => r_aloadn gx256_44 rfl) ?_)
      refine pt_d (pt_virt (as := []) (r := []) gx256_45 rfl (show zmt[254]? = some zM254 from rfl) rfl rfl rfl rfl (c_254 S2) (kqI (fun v6 y6 h_6 h6 P6 => ?_)))
      have S6 := P6.1
      have H := H y6 h_6 P6
      show Pt _ _ _ 48 _ [.int v6] _ _
      refine pt_d (pt_if_ne gx256_48 h6 (fun e7 => ?_) (fun e7 => ?_))
      · have H := H.1 e7
        refine pt_d (pt_1 (fun n d => r_aloadn gx256_52 rfl) ?_)
        obtain ⟨pr8, H⟩ := H
        refine pt_d (pt_virt (as := []) (r := []) gx256_53 rfl (show zmt[256]? = some zM256 from rfl) rfl rfl rfl rfl (K256 S6 pr8) (kqN (fun h_8 P8 => ?_)))
        have S8 := P8.1
        have H := H h_8 P8
        show Pt _ _ _ 56 _ [] _ _
        refine pt_d (pt_1 (fun n d => r_aloadn gx256_56 rfl) ?_)
        refine pt_d (pt_1 (fun n d => r_dup gx256_57 rfl) ?_)
        refine pt_d (pt_getI (B := 66) gx256_58 S8 (fun v9 h9 => ?_))
        refine pt_d (pt_iconst gx256_61 (fun v10 h10 => ?_))
        refine pt_d (pt_isub gx256_62 h9 h10 (fun v11 h11 => ?_))
        refine pt_d (pt_putI (B := 66) gx256_63 S8 h11 (fun h_12 S12 e12 => ?_))
        refine pt_d (pt_1 (fun n d => r_aloadn gx256_66 rfl) ?_)
        refine pt_d (pt_1 (fun n d => r_iloadn gx256_67 rfl) ?_)
        refine pt_d (pt_bipush gx256_68 (fun v13 h13 => ?_))
        refine pt_d (pt_icmp_ne gx256_70 h1 h13 (fun e14 => ?_) (fun e14 => ?_))
        · have H := H.1 e14
          refine pt_d (pt_iconst gx256_77 (fun v15 h15 => ?_))
          refine pt_d (pt_iconst gx256_78 (fun v16 h16 => ?_))
          have H := H h_12 S12 (by rw [e12])
          refine pt_d (pt_virt (as := [.int v15, .int v16]) (r := []) gx256_79 rfl (show zmt[253]? = some zM253 from rfl) rfl rfl rfl rfl (c_253v S12 h15 h16) (kqN (fun h_17 P17 => ?_)))
          have S17 := P17.1
          have H := H h_17 P17
          show Pt _ _ _ 82 _ [] _ _
          exact pt_d (pt_vret gx256_82 ⟨rfl, H⟩)
        · have H := H.2 e14
          refine pt_d (pt_iconst gx256_73 (fun v18 h18 => ?_))
          refine pt_d (pt_1 (fun n d => r_goto gx256_74) ?_)
          refine pt_d (pt_iconst gx256_78 (fun v19 h19 => ?_))
          have H := H h_12 S12 (by rw [e12])
          refine pt_d (pt_virt (as := [.int v18, .int v19]) (r := []) gx256_79 rfl (show zmt[253]? = some zM253 from rfl) rfl rfl rfl rfl (c_253v S12 h18 h19) (kqN (fun h_20 P20 => ?_)))
          have S20 := P20.1
          have H := H h_20 P20
          show Pt _ _ _ 82 _ [] _ _
          exact pt_d (pt_vret gx256_82 ⟨rfl, H⟩)
      · have H := H.2 e7
        exact pt_d (pt_vret gx256_51 ⟨rfl, H⟩)
    · have H := H.2 e5
      refine pt_d (pt_1 (fun n d => r_iloadn gx256_38 rfl) ?_)
      refine pt_d (pt_bipush gx256_39 (fun v21 h21 => ?_))
      refine pt_d (pt_icmp_ne gx256_41 h1 h21 (fun e22 => ?_) (fun e22 => ?_))
      · have H := H.1 e22
        refine pt_d (pt_1 (fun n d => r_iloadn gx256_83 rfl) ?_)
        refine pt_d (pt_bipush gx256_84 (fun v23 h23 => ?_))
        refine pt_d (pt_icmp_ne gx256_86 h1 h23 (fun e24 => ?_) (fun e24 => ?_))
        · have H := H.1 e24
          refine pt_d (pt_iconst gx256_144 (fun v25 h25 => ?_))
          refine pt_d (pt_1 (fun n d => r_istoren (L' := [some (.ref 72), some (.int v1), some (.int v25), none]) gx256_145 rfl rfl) ?_)
          refine pt_d (pt_iconst gx256_146 (fun v26 h26 => ?_))
          refine pt_d (pt_1 (fun n d => r_istoren (L' := [some (.ref 72), some (.int v1), some (.int v25), some (.int v26)]) gx256_147 rfl rfl) ?_)
          exact H v1 v25 v26 h1 h25 h26
        · have H := H.2 e24
          refine pt_d (pt_1 (fun n d => r_aloadn gx256_89 rfl) ?_)
          refine pt_d (pt_virt (as := []) (r := []) gx256_90 rfl (show zmt[254]? = some zM254 from rfl) rfl rfl rfl rfl (c_254 S2) (kqI (fun v27 y27 h_27 h27 P27 => ?_)))
          have S27 := P27.1
          have H := H y27 h_27 P27
          show Pt _ _ _ 93 _ [.int v27] _ _
          refine pt_d (pt_if_ne gx256_93 h27 (fun e28 => ?_) (fun e28 => ?_))
          · have H := H.1 e28
            refine pt_d (pt_1 (fun n d => r_aloadn gx256_97 rfl) ?_)
            obtain ⟨pr29, H⟩ := H
            refine pt_d (pt_virt (as := []) (r := []) gx256_98 rfl (show zmt[261]? = some zM261 from rfl) rfl rfl rfl rfl (K261 S27 pr29) (kqN (fun h_29 P29 => ?_)))
            have S29 := P29.1
            have H := H h_29 P29
            show Pt _ _ _ 101 _ [] _ _
            refine pt_d (pt_1 (fun n d => r_aloadn gx256_101 rfl) ?_)
            refine pt_d (pt_getI (B := 65) gx256_102 S29 (fun v30 h30 => ?_))
            refine pt_d (pt_if_lt gx256_105 h30 (fun e31 => ?_) (fun e31 => ?_))
            · have H := H.1 e31
              refine pt_d (pt_1 (fun n d => r_aloadn gx256_109 rfl) ?_)
              refine pt_d (pt_virt (as := []) (r := []) gx256_110 rfl (show zmt[251]? = some zM251 from rfl) rfl rfl rfl rfl (c_251 S29) (kqP (fun v32 h32 => ?_)))
              show Pt _ _ _ 113 _ [.int v32] _ _
              refine pt_d (pt_bipush gx256_113 (fun v33 h33 => ?_))
              refine pt_d (pt_icmp_eq gx256_115 h32 h33 (fun e34 => ?_) (fun e34 => ?_))
              · have H := H.1 e34
                refine pt_d (pt_1 (fun n d => r_aloadn gx256_123 rfl) ?_)
                refine pt_d (pt_1 (fun n d => r_dup gx256_124 rfl) ?_)
                refine pt_d (pt_getI (B := 66) gx256_125 S29 (fun v35 h35 => ?_))
                refine pt_d (pt_iconst gx256_128 (fun v36 h36 => ?_))
                refine pt_d (pt_isub gx256_129 h35 h36 (fun v37 h37 => ?_))
                refine pt_d (pt_putI (B := 66) gx256_130 S29 h37 (fun h_38 S38 e38 => ?_))
                refine pt_d (pt_1 (fun n d => r_aloadn gx256_133 rfl) ?_)
                refine pt_d (pt_1 (fun n d => r_dup gx256_134 rfl) ?_)
                refine pt_d (pt_getI (B := 64) gx256_135 S38 (fun v39 h39 => ?_))
                have h39 : v39.toInt = vw h_29 72 64 := by rw [h39, e38, up_j (by decide)]
                refine pt_d (pt_iconst gx256_138 (fun v40 h40 => ?_))
                refine pt_d (pt_iadd gx256_139 h39 h40 (fun v41 h41 => ?_))
                refine pt_d (pt_putI (B := 64) gx256_140 S38 h41 (fun h_42 S42 e42 => ?_))
                have H := H h_42 S42 (by rw [e42, e38])
                exact pt_d (pt_vret gx256_143 ⟨rfl, H⟩)
              · have H := H.2 e34
                refine pt_d (pt_1 (fun n d => r_aloadn gx256_118 rfl) ?_)
                refine pt_d (pt_virt (as := []) (r := []) gx256_119 rfl (show zmt[252]? = some zM252 from rfl) rfl rfl rfl rfl (c_252 S29) (kqN (fun h_43 P43 => ?_)))
                have S43 := P43.1
                have H := H h_43 P43
                show Pt _ _ _ 122 _ [] _ _
                exact pt_d (pt_vret gx256_122 ⟨rfl, H⟩)
            · have H := H.2 e31
              exact pt_d (pt_vret gx256_108 ⟨rfl, H⟩)
          · have H := H.2 e28
            exact pt_d (pt_vret gx256_96 ⟨rfl, H⟩)
      · have H := H.2 e22
        refine pt_d (pt_1 (fun n d => r_aloadn gx256_44 rfl) ?_)
        refine pt_d (pt_virt (as := []) (r := []) gx256_45 rfl (show zmt[254]? = some zM254 from rfl) rfl rfl rfl rfl (c_254 S2) (kqI (fun v44 y44 h_44 h44 P44 => ?_)))
        have S44 := P44.1
        have H := H y44 h_44 P44
        show Pt _ _ _ 48 _ [.int v44] _ _
        refine pt_d (pt_if_ne gx256_48 h44 (fun e45 => ?_) (fun e45 => ?_))
        · have H := H.1 e45
          refine pt_d (pt_1 (fun n d => r_aloadn gx256_52 rfl) ?_)
          obtain ⟨pr46, H⟩ := H
          refine pt_d (pt_virt (as := []) (r := []) gx256_53 rfl (show zmt[256]? = some zM256 from rfl) rfl rfl rfl rfl (K256 S44 pr46) (kqN (fun h_46 P46 => ?_)))
          have S46 := P46.1
          have H := H h_46 P46
          show Pt _ _ _ 56 _ [] _ _
          refine pt_d (pt_1 (fun n d => r_aloadn gx256_56 rfl) ?_)
          refine pt_d (pt_1 (fun n d => r_dup gx256_57 rfl) ?_)
          refine pt_d (pt_getI (B := 66) gx256_58 S46 (fun v47 h47 => ?_))
          refine pt_d (pt_iconst gx256_61 (fun v48 h48 => ?_))
          refine pt_d (pt_isub gx256_62 h47 h48 (fun v49 h49 => ?_))
          refine pt_d (pt_putI (B := 66) gx256_63 S46 h49 (fun h_50 S50 e50 => ?_))
          refine pt_d (pt_1 (fun n d => r_aloadn gx256_66 rfl) ?_)
          refine pt_d (pt_1 (fun n d => r_iloadn gx256_67 rfl) ?_)
          refine pt_d (pt_bipush gx256_68 (fun v51 h51 => ?_))
          refine pt_d (pt_icmp_ne gx256_70 h1 h51 (fun e52 => ?_) (fun e52 => ?_))
          · have H := H.1 e52
            refine pt_d (pt_iconst gx256_77 (fun v53 h53 => ?_))
            refine pt_d (pt_iconst gx256_78 (fun v54 h54 => ?_))
            have H := H h_50 S50 (by rw [e50])
            refine pt_d (pt_virt (as := [.int v53, .int v54]) (r := []) gx256_79 rfl (show zmt[253]? = some zM253 from rfl) rfl rfl rfl rfl (c_253v S50 h53 h54) (kqN (fun h_55 P55 => ?_)))
            have S55 := P55.1
            have H := H h_55 P55
            show Pt _ _ _ 82 _ [] _ _
            exact pt_d (pt_vret gx256_82 ⟨rfl, H⟩)
          · have H := H.2 e52
            refine pt_d (pt_iconst gx256_73 (fun v56 h56 => ?_))
            refine pt_d (pt_1 (fun n d => r_goto gx256_74) ?_)
            refine pt_d (pt_iconst gx256_78 (fun v57 h57 => ?_))
            have H := H h_50 S50 (by rw [e50])
            refine pt_d (pt_virt (as := [.int v56, .int v57]) (r := []) gx256_79 rfl (show zmt[253]? = some zM253 from rfl) rfl rfl rfl rfl (c_253v S50 h56 h57) (kqN (fun h_58 P58 => ?_)))
            have S58 := P58.1
            have H := H h_58 P58
            show Pt _ _ _ 82 _ [] _ _
            exact pt_d (pt_vret gx256_82 ⟨rfl, H⟩)
        · have H := H.2 e45
          exact pt_d (pt_vret gx256_51 ⟨rfl, H⟩)
  · have H := H.2 e3
    refine pt_d (pt_1 (fun n d => r_aloadn gx256_12 rfl) ?_)
    refine pt_d (pt_iconst gx256_13 (fun v59 h59 => ?_))
    refine pt_d (pt_1 (fun n d => r_iloadn gx256_14 rfl) ?_)
    refine pt_d (pt_stat (as := [.int v1]) (r := [.int v59, .ref 72]) gx256_15 rfl (show zmt[255]? = some zM255 from rfl) rfl rfl rfl rfl (c_255v S2 h1) (kqI (fun v60 y60 h_60 h60 P60 => ?_)))
    have S60 := P60.1
    have H := H y60 h_60 P60
    show Pt _ _ _ 18 _ [.int v60, .int v59, .ref 72] _ _
    refine pt_d (pt_virt (as := [.int v59, .int v60]) (r := []) gx256_18 rfl (show zmt[253]? = some zM253 from rfl) rfl rfl rfl rfl (c_253v S60 h59 h60) (kqN (fun h_61 P61 => ?_)))
    have S61 := P61.1
    have H := H h_61 P61
    show Pt _ _ _ 21 _ [] _ _
    refine pt_d (pt_1 (fun n d => r_aloadn gx256_21 rfl) ?_)
    refine pt_d (pt_1 (fun n d => r_dup gx256_22 rfl) ?_)
    refine pt_d (pt_getI (B := 64) gx256_23 S61 (fun v62 h62 => ?_))
    refine pt_d (pt_iconst gx256_26 (fun v63 h63 => ?_))
    refine pt_d (pt_iadd gx256_27 h62 h63 (fun v64 h64 => ?_))
    refine pt_d (pt_putI (B := 64) gx256_28 S61 h64 (fun h_65 S65 e65 => ?_))
    have H := H h_65 S65 (by rw [e65])
    exact pt_d (pt_vret gx256_31 ⟨rfl, H⟩)
theorem y256_148 {n : Nat} {X : aX} {h : aH} {P : aH → Prop} {x1 x2 x3 : Int32} {a1 a2 a3 : Int} (S : wS h) (z1 : x1.toInt = a1) (z2 : x2.toInt = a2) (z3 : x3.toInt = a3) (H : ((6 ≤ a2 → ((a2 = 0 → ∀ (h_4 : aH), (wS h_4 ∧ R252 (vw h) (vw h_4)) → P h_4) ∧ (a2 ≠ 0 → ((¬ (48 ≤ (mL (vw h)) ∧ (mL (vw h)) ≤ 57) → ∀ (h_11 : aH), (wS h_11 ∧ RLay (vw h) 1 a3 (vw h_11)) → P h_11) ∧ ((48 ≤ (mL (vw h)) ∧ (mL (vw h)) ≤ 57) → ∀ (h_12 : aH), (wS h_12 ∧ R252 (vw h) (vw h_12)) → P h_12))))) ∧ (a2 < 6 → ((¬ (48 ≤ (mL (vw h)) ∧ (mL (vw h)) ≤ 57) → ((a2 = 0 → ∀ (h_19 : aH), (wS h_19 ∧ R252 (vw h) (vw h_19)) → P h_19) ∧ (a2 ≠ 0 → ((¬ (48 ≤ (mL (vw h)) ∧ (mL (vw h)) ≤ 57) → ∀ (h_26 : aH), (wS h_26 ∧ RLay (vw h) 1 a3 (vw h_26)) → P h_26) ∧ ((48 ≤ (mL (vw h)) ∧ (mL (vw h)) ≤ 57) → ∀ (h_27 : aH), (wS h_27 ∧ R252 (vw h) (vw h_27)) → P h_27))))) ∧ ((48 ≤ (mL (vw h)) ∧ (mL (vw h)) ≤ 57) → ∀ h_38 : aH, wS h_38 → vw h_38 = up (vw h) 72 64 (w32 ((vw h 72 64) + 1)) → (∀ (w2 : Int32) (w3 : Int32), w2.toInt = w32 (a2 + 1) → w3.toInt = w32 ((w32 ((w32 (10 * a3)) + (mL (vw h)))) - 48) → Pt n X zM256 148 [some (.ref 72), some (.int x1), some (.int w2), some (.int w3)] [] h_38 (qN P))))))) : Pt (n + 1) X zM256 148 [some (.ref 72), some (.int x1), some (.int x2), some (.int x3)] [] h (qN P) := by
  refine pt_1 (fun n d => r_iloadn gx256_148 rfl) ?_
  refine pt_d (pt_bipush gx256_149 (fun v1 h1 => ?_))
  refine pt_d (pt_icmp_ge gx256_151 z2 h1 (fun e2 => ?_) (fun e2 => ?_))
  · have H := H.1 e2
    refine pt_d (pt_1 (fun n d => r_iloadn gx256_197 rfl) ?_)
    refine pt_d (pt_if_eq gx256_198 z2 (fun e3 => ?_) (fun e3 => ?_))
    · have H := H.1 e3
      refine pt_d (pt_1 (fun n d => r_aloadn gx256_215 rfl) ?_)
      refine pt_d (pt_virt (as := []) (r := []) gx256_216 rfl (show zmt[252]? = some zM252 from rfl) rfl rfl rfl rfl (c_252 S) (kqN (fun h_4 P4 => ?_)))
      have S4 := P4.1
      have H := H h_4 P4
      show Pt _ _ _ 219 _ [] _ _
      refine pt_d (pt_1 (fun n d => r_goto gx256_219) ?_)
      exact pt_d (pt_vret gx256_228 ⟨rfl, H⟩)
    · have H := H.2 e3
      refine pt_d (pt_1 (fun n d => r_aloadn gx256_201 rfl) ?_)
      refine pt_d (pt_virt (as := []) (r := []) gx256_202 rfl (show zmt[251]? = some zM251 from rfl) rfl rfl rfl rfl (c_251 S) (kqP (fun v5 h5 => ?_)))
      show Pt _ _ _ 205 _ [.int v5] _ _
      refine pt_d (pt_bipush gx256_205 (fun v6 h6 => ?_))
      refine pt_d (pt_bipush gx256_207 (fun v7 h7 => ?_))
      refine pt_d (pt_stat (as := [.int v5, .int v6, .int v7]) (r := []) gx256_209 rfl (show zmt[196]? = some zM196 from rfl) rfl rfl rfl rfl (c_196 S h5 h6 h7) (kqP (fun v8 h8 => ?_)))
      show Pt _ _ _ 212 _ [.int v8] _ _
      refine pt_d (pt_ifB_eq gx256_212 h8 (fun e9 => ?_) (fun e9 => ?_))
      · have H := H.1 e9
        refine pt_d (pt_1 (fun n d => r_aloadn gx256_222 rfl) ?_)
        refine pt_d (pt_iconst gx256_223 (fun v10 h10 => ?_))
        refine pt_d (pt_1 (fun n d => r_iloadn gx256_224 rfl) ?_)
        refine pt_d (pt_virt (as := [.int v10, .int x3]) (r := []) gx256_225 rfl (show zmt[253]? = some zM253 from rfl) rfl rfl rfl rfl (c_253v S h10 z3) (kqN (fun h_11 P11 => ?_)))
        have S11 := P11.1
        have H := H h_11 P11
        show Pt _ _ _ 228 _ [] _ _
        exact pt_d (pt_vret gx256_228 ⟨rfl, H⟩)
      · have H := H.2 e9
        refine pt_d (pt_1 (fun n d => r_aloadn gx256_215 rfl) ?_)
        refine pt_d (pt_virt (as := []) (r := []) gx256_216 rfl (show zmt[252]? = some zM252 from rfl) rfl rfl rfl rfl (c_252 S) (kqN (fun h_12 P12 => ?_)))
        have S12 := P12.1
        have H := H h_12 P12
        show Pt _ _ _ 219 _ [] _ _
        refine pt_d (pt_1 (fun n d => r_goto gx256_219) ?_)
        exact pt_d (pt_vret gx256_228 ⟨rfl, H⟩)
  · have H := H.2 e2
    refine pt_d (pt_1 (fun n d => r_aloadn gx256_154 rfl) ?_)
    refine pt_d (pt_virt (as := []) (r := []) gx256_155 rfl (show zmt[251]? = some zM251 from rfl) rfl rfl rfl rfl (c_251 S) (kqP (fun v13 h13 => ?_)))
    show Pt _ _ _ 158 _ [.int v13] _ _
    refine pt_d (pt_bipush gx256_158 (fun v14 h14 => ?_))
    refine pt_d (pt_bipush gx256_160 (fun v15 h15 => ?_))
    refine pt_d (pt_stat (as := [.int v13, .int v14, .int v15]) (r := []) gx256_162 rfl (show zmt[196]? = some zM196 from rfl) rfl rfl rfl rfl (c_196 S h13 h14 h15) (kqP (fun v16 h16 => ?_)))
    show Pt _ _ _ 165 _ [.int v16] _ _
    refine pt_d (pt_ifB_eq gx256_165 h16 (fun e17 => ?_) (fun e17 => ?_))
    · have H := H.1 e17
      refine pt_d (pt_1 (fun n d => r_iloadn gx256_197 rfl) ?_)
      refine pt_d (pt_if_eq gx256_198 z2 (fun e18 => ?_) (fun e18 => ?_))
      · have H := H.1 e18
        refine pt_d (pt_1 (fun n d => r_aloadn gx256_215 rfl) ?_)
        refine pt_d (pt_virt (as := []) (r := []) gx256_216 rfl (show zmt[252]? = some zM252 from rfl) rfl rfl rfl rfl (c_252 S) (kqN (fun h_19 P19 => ?_)))
        have S19 := P19.1
        have H := H h_19 P19
        show Pt _ _ _ 219 _ [] _ _
        refine pt_d (pt_1 (fun n d => r_goto gx256_219) ?_)
        exact pt_d (pt_vret gx256_228 ⟨rfl, H⟩)
      · have H := H.2 e18
        refine pt_d (pt_1 (fun n d => r_aloadn gx256_201 rfl) ?_)
        refine pt_d (pt_virt (as := []) (r := []) gx256_202 rfl (show zmt[251]? = some zM251 from rfl) rfl rfl rfl rfl (c_251 S) (kqP (fun v20 h20 => ?_)))
        show Pt _ _ _ 205 _ [.int v20] _ _
        refine pt_d (pt_bipush gx256_205 (fun v21 h21 => ?_))
        refine pt_d (pt_bipush gx256_207 (fun v22 h22 => ?_))
        refine pt_d (pt_stat (as := [.int v20, .int v21, .int v22]) (r := []) gx256_209 rfl (show zmt[196]? = some zM196 from rfl) rfl rfl rfl rfl (c_196 S h20 h21 h22) (kqP (fun v23 h23 => ?_)))
        show Pt _ _ _ 212 _ [.int v23] _ _
        refine pt_d (pt_ifB_eq gx256_212 h23 (fun e24 => ?_) (fun e24 => ?_))
        · have H := H.1 e24
          refine pt_d (pt_1 (fun n d => r_aloadn gx256_222 rfl) ?_)
          refine pt_d (pt_iconst gx256_223 (fun v25 h25 => ?_))
          refine pt_d (pt_1 (fun n d => r_iloadn gx256_224 rfl) ?_)
          refine pt_d (pt_virt (as := [.int v25, .int x3]) (r := []) gx256_225 rfl (show zmt[253]? = some zM253 from rfl) rfl rfl rfl rfl (c_253v S h25 z3) (kqN (fun h_26 P26 => ?_)))
          have S26 := P26.1
          have H := H h_26 P26
          show Pt _ _ _ 228 _ [] _ _
          exact pt_d (pt_vret gx256_228 ⟨rfl, H⟩)
        · have H := H.2 e24
          refine pt_d (pt_1 (fun n d => r_aloadn gx256_215 rfl) ?_)
          refine pt_d (pt_virt (as := []) (r := []) gx256_216 rfl (show zmt[252]? = some zM252 from rfl) rfl rfl rfl rfl (c_252 S) (kqN (fun h_27 P27 => ?_)))
          have S27 := P27.1
          have H := H h_27 P27
          show Pt _ _ _ 219 _ [] _ _
          refine pt_d (pt_1 (fun n d => r_goto gx256_219) ?_)
          exact pt_d (pt_vret gx256_228 ⟨rfl, H⟩)
    · have H := H.2 e17
      refine pt_d (pt_bipush gx256_168 (fun v28 h28 => ?_))
      refine pt_d (pt_1 (fun n d => r_iloadn gx256_170 rfl) ?_)
      refine pt_d (pt_imul gx256_171 h28 z3 (fun v29 h29 => ?_))
      refine pt_d (pt_1 (fun n d => r_aloadn gx256_172 rfl) ?_)
      refine pt_d (pt_virt (as := []) (r := [.int v29]) gx256_173 rfl (show zmt[251]? = some zM251 from rfl) rfl rfl rfl rfl (c_251 S) (kqP (fun v30 h30 => ?_)))
      show Pt _ _ _ 176 _ [.int v30, .int v29] _ _
      refine pt_d (pt_iadd gx256_176 h29 h30 (fun v31 h31 => ?_))
      refine pt_d (pt_bipush gx256_177 (fun v32 h32 => ?_))
      refine pt_d (pt_isub gx256_179 h31 h32 (fun v33 h33 => ?_))
      refine pt_d (pt_1 (fun n d => r_istoren (L' := [some (.ref 72), some (.int x1), some (.int x2), some (.int v33)]) gx256_180 rfl rfl) ?_)
      refine pt_d (pt_iinc (c := 1) gx256_181 rfl z2 (fun v34 h34 => ?_))
      show Pt _ _ _ _ [some (.ref 72), some (.int x1), some (.int v34), some (.int v33)] [] _ _
      refine pt_d (pt_1 (fun n d => r_aloadn gx256_184 rfl) ?_)
      refine pt_d (pt_1 (fun n d => r_dup gx256_185 rfl) ?_)
      refine pt_d (pt_getI (B := 64) gx256_186 S (fun v35 h35 => ?_))
      refine pt_d (pt_iconst gx256_189 (fun v36 h36 => ?_))
      refine pt_d (pt_iadd gx256_190 h35 h36 (fun v37 h37 => ?_))
      refine pt_d (pt_putI (B := 64) gx256_191 S h37 (fun h_38 S38 e38 => ?_))
      refine pt_d (pt_1 (fun n d => r_goto gx256_194) ?_)
      have H := H h_38 S38 (by rw [e38])
      exact H v34 v33 h34 h33
theorem l_256v {X : aX} {V : vS} (nn : nmB (mT V (V 72 64)) = false) (n3 : mT V (V 72 64) ≠ 33) (n4 : mT V (V 72 64) ≠ 45) (n5 : mT V (V 72 64) ≠ 40) (HV : mpre V) (KV : kpre V) : ∀ (n : Nat) (h : aH) (x1 x2 x3 : Int32) (j : Nat) (v : Int), wS h → j ≤ 6 → x2.toInt = 6 - (j : Int) → x3.toInt = v → vw h = up V 72 64 (V 72 64 + (6 - (j : Int))) → dgEnd (mT V) 6 (V 72 64) = dgEnd (mT V) j (V 72 64 + (6 - (j : Int))) → dgVal (mT V) 6 (V 72 64) 0 = dgVal (mT V) j (V 72 64 + (6 - (j : Int))) v → V 72 64 + (6 - (j : Int)) ≤ V 72 54 → Pt n X zM256 148 [some (.ref 72), some (.int x1), some (.int x2), some (.int x3)] [] h (qN (fun h' => kRes 0 V (vw h'))) := by
  intro n
  induction n with
  | zero => exact fun _ _ _ _ _ _ _ _ _ _ _ _ _ _ => pt_z
  | succ n ih =>
    intro h x1 x2 x3 j v S hj h2 h3 ev ed edv hl
    have h0 := HV.2.2.1
    have h160 := HV.2.2.2
    have h64 : vw h 72 64 = V 72 64 + (6 - (j : Int)) := by rw [ev, up_s]
    have T' : mT (vw h) = mT V := by rw [ev]; exact mfr_T (mfr_u (mfr_r V) (Or.inl rfl))
    have mLe : mL (vw h) = mT V (V 72 64 + (6 - (j : Int))) := by rw [mL_T (by omega), T', h64]
    have h65 : vw h 72 65 = -1 := by rw [ev, up_j (by decide)]; exact HV.1
    have Fh : kFs (-(6 - (j : Int))) V (vw h) := by rw [ev]; exact kFs_i (up_fr (by omega)) (by rw [up_s]; omega)
    have Kh : kpre (vw h) := kF_p (by omega) KV Fh
    have hD : ∀ c : Int, (48 ≤ c ∧ c ≤ 57) ↔ isD c = true := fun c => by unfold isD; rw [decide_eq_true_eq]
    have bad : ∀ g : aH, (wS g ∧ R252 (vw h) (vw g)) → kRes 0 V (vw g) := by
      intro g k
      rcases k.2 with ⟨z, -⟩ | ⟨-, z⟩
      · omega
      · rw [z]
        have F2 := kFs_t Fh (kFs_i (s := 0) (V := vw h) (V' := up (vw h) 72 65 (vw h 72 64)) (up_fr (by omega)) (by rw [up_j (by decide)]; omega))
        refine ⟨⟨F2.1, F2.2.1, F2.2.2.1, by have := F2.2.2.2; omega⟩, fun w => ?_⟩
        rw [up_s] at w
        omega
    have good : dgEnd (mT V) 6 (V 72 64) = V 72 64 + (6 - (j : Int)) → dgVal (mT V) 6 (V 72 64) 0 = v → j < 6 → ¬ isD (mT V (dgEnd (mT V) 6 (V 72 64))) = true → ∀ g : aH, (wS g ∧ RLay (vw h) 1 v (vw g)) → kRes 0 V (vw g) := by
      intro d dv j6 nd g k
      obtain ⟨lF, l68, lc, l64, l65⟩ := lay_F Kh (by omega) k.2
      have F := kFs_t Fh lF
      have e67 := kFs_67 Fh
      have e68 : vw h 72 68 = V 72 68 := by rw [ev, up_j (by decide)]
      refine ⟨⟨F.1, F.2.1, F.2.2.1, by have := F.2.2.2; omega⟩, fun _ => ⟨_, _, ko_no nn n3 n4 n5 (fun z => z.elim (fun z => by omega) nd), by rw [l64, h64, d], ?_, ?_⟩⟩
      · rw [l68, e68]
        rfl
      · rw [e67, e68] at lc
        rw [dv]
        exact ⟨lc, trivial⟩
    have fin : dgEnd (mT V) 6 (V 72 64) = V 72 64 + (6 - (j : Int)) → dgVal (mT V) 6 (V 72 64) 0 = v → ((x2.toInt = 0 → ∀ g : aH, (wS g ∧ R252 (vw h) (vw g)) → kRes 0 V (vw g)) ∧ (x2.toInt ≠ 0 → ((¬ (48 ≤ (mL (vw h)) ∧ (mL (vw h)) ≤ 57) → ∀ g : aH, (wS g ∧ RLay (vw h) 1 x3.toInt (vw g)) → kRes 0 V (vw g)) ∧ ((48 ≤ (mL (vw h)) ∧ (mL (vw h)) ≤ 57) → ∀ g : aH, (wS g ∧ R252 (vw h) (vw g)) → kRes 0 V (vw g))))) := by
      intro d dv
      refine ⟨fun _ => bad, fun e => ⟨fun nd => ?_, fun _ => bad⟩⟩
      rw [h3]
      exact good d dv (by omega) (fun z => by rw [d, ← mLe] at z; exact nd ((hD _).mpr z))
    refine y256_148 S rfl rfl rfl ⟨fun e1 => ?_, fun e1 => ⟨fun nd => ?_, fun dd g S2 eg w2 w3 g2 g3 => ?_⟩⟩
    · obtain rfl : j = 0 := by omega
      exact fin ed edv
    · obtain ⟨i, rfl⟩ : ∃ i, j = i + 1 := ⟨j - 1, by omega⟩
      have z : isD (mT V (V 72 64 + (6 - ((i + 1 : Nat) : Int)))) = false := by
        cases w : isD (mT V (V 72 64 + (6 - ((i + 1 : Nat) : Int)))) with
        | false => rfl
        | true => rw [← mLe] at w; exact absurd ((hD _).mpr w) nd
      have e : dgEnd (mT V) (i + 1) (V 72 64 + (6 - ((i + 1 : Nat) : Int))) = bif isD (mT V (V 72 64 + (6 - ((i + 1 : Nat) : Int)))) then dgEnd (mT V) i (V 72 64 + (6 - ((i + 1 : Nat) : Int)) + 1) else V 72 64 + (6 - ((i + 1 : Nat) : Int)) := rfl
      have e' : dgVal (mT V) (i + 1) (V 72 64 + (6 - ((i + 1 : Nat) : Int))) v = bif isD (mT V (V 72 64 + (6 - ((i + 1 : Nat) : Int)))) then dgVal (mT V) i (V 72 64 + (6 - ((i + 1 : Nat) : Int)) + 1) (w32 (w32 (w32 (v * 10) + mT V (V 72 64 + (6 - ((i + 1 : Nat) : Int)))) - 48)) else v := rfl
      rw [z] at e e'
      exact fin (ed.trans e) (edv.trans e')
    · obtain ⟨i, rfl⟩ : ∃ i, j = i + 1 := ⟨j - 1, by omega⟩
      have z : isD (mT V (V 72 64 + (6 - ((i + 1 : Nat) : Int)))) = true := by rw [← mLe]; exact (hD _).mp dd
      have e : dgEnd (mT V) (i + 1) (V 72 64 + (6 - ((i + 1 : Nat) : Int))) = bif isD (mT V (V 72 64 + (6 - ((i + 1 : Nat) : Int)))) then dgEnd (mT V) i (V 72 64 + (6 - ((i + 1 : Nat) : Int)) + 1) else V 72 64 + (6 - ((i + 1 : Nat) : Int)) := rfl
      have e' : dgVal (mT V) (i + 1) (V 72 64 + (6 - ((i + 1 : Nat) : Int))) v = bif isD (mT V (V 72 64 + (6 - ((i + 1 : Nat) : Int)))) then dgVal (mT V) i (V 72 64 + (6 - ((i + 1 : Nat) : Int)) + 1) (w32 (w32 (w32 (v * 10) + mT V (V 72 64 + (6 - ((i + 1 : Nat) : Int)))) - 48)) else v := rfl
      rw [z] at e e'
      have lt : V 72 64 + (6 - ((i + 1 : Nat) : Int)) < V 72 54 := mT_lt (fun w => by rw [w] at z; cases z)
      replace g2 := w_1 g2 (by omega) (by omega)
      have ee : V 72 64 + (6 - ((i + 1 : Nat) : Int)) + 1 = V 72 64 + (6 - (i : Int)) := by omega
      rw [h64, w32_id (by omega) (by omega), ee, ev, up_up] at eg
      rw [ee] at e e'
      rw [h3, mLe, Int.mul_comm] at g3
      exact ih g x1 w2 w3 i _ S2 (by omega) (by omega) g3 eg (ed.trans e) (edv.trans e') (by omega)


-- ===== 82zyzkc.pay: 2 texts =====
section
-- ===== what a farm is paid =====
theorem d8_0 {n : Nat} {X : aX} {h : aH} {P : Int → aH → Prop} {x1 x2 x3 x4 : Int32} {a1 a2 a3 a4 : Int} (S : wS h) (z1 : x1.toInt = a1) (z2 : x2.toInt = a2) (z3 : x3.toInt = a3) (z4 : x4.toInt = a4) (H : (((IV h ∧ AP (vw h)) ∧ (0 ≤ a1 ∧ a1 < 150) ∧ (0 ≤ a2 ∧ a2 ≤ 9) ∧ vw h 1 6 ≤ 200 ∧ vw h 1 4 ≤ 150) ∧ ∀ (h_1 : aH), (wS h_1 ∧ R2 h a1 a2 a3 h_1) → (0 ≤ a1 → a1 < 150 → ((a4 ≠ (-1) → (∀ (w5 : Int32) (w7 : Int32), w5.toInt = w32 ((vw h_1 3 a1) * 10) → w7.toInt = min (vw h_1 43 3) (w32 (10 * (vw h_1 43 9))) → Pt n X zM8 68 [some (.ref 41), some (.int x1), some (.int x2), some (.int x3), some (.int x4), some (.int w5), some (.int x4), some (.int w7), none, none] [] h_1 (qI P))) ∧ (a4 = (-1) → ((0 ≤ vw h_1 33 7 ∧ vw h_1 33 7 ≤ 16) ∧ (∀ (w5 : Int32) (w6 : Int32) (w7 : Int32), w5.toInt = w32 ((vw h_1 3 a1) * 10) → w6.toInt = stg (vw h_1) 37 38 39 (w32 ((w32 ((vw h_1 3 a1) * 10)) + 0)) a2 a3 ((vw h_1) 33 7).toNat → w7.toInt = min (vw h_1 43 3) (w32 (10 * (vw h_1 43 9))) → Pt n X zM8 68 [some (.ref 41), some (.int x1), some (.int x2), some (.int x3), some (.int x4), some (.int w5), some (.int w6), some (.int w7), none, none] [] h_1 (qI P)))))))) : Pt (n + 1) X zM8 0 [some (.ref 41), some (.int x1), some (.int x2), some (.int x3), some (.int x4), none, none, none, none, none] [] h (qI P) := by
  refine pt_1 (fun n d => r_aloadn gx8_0 rfl) ?_
  refine pt_d (pt_1 (fun n d => r_iloadn gx8_1 rfl) ?_)
  refine pt_d (pt_1 (fun n d => r_iloadn gx8_2 rfl) ?_)
  refine pt_d (pt_1 (fun n d => r_iloadn gx8_3 rfl) ?_)
  obtain ⟨pr1, H⟩ := H
  refine pt_d (pt_virt (as := [.int x1, .int x2, .int x3]) (r := []) gx8_4 rfl (show zmt[2]? = some zM2 from rfl) rfl rfl rfl rfl (c_2 S z1 z2 z3 pr1) (kqN (fun h_1 P1 => ?_)))
  have S1 := P1.1
  have H := H h_1 P1
  show Pt _ _ _ 7 _ [] _ _
  refine pt_d (pt_1 (fun n d => r_aloadn gx8_7 rfl) ?_)
  refine pt_d (pt_getR gx8_8 S1 tr_41_0 ?_)
  refine pt_d (pt_getR gx8_11 S1 tr_1_8 ?_)
  refine pt_d (pt_1 (fun n d => r_iloadn gx8_14 rfl) ?_)
  refine pt_d (pt_iald (N' := 150) gx8_15 S1 tl_3 z1 (fun v4 p4 q4 h4 => ?_))
  have H := H p4 q4
  refine pt_d (pt_bipush gx8_16 (fun v5 h5 => ?_))
  refine pt_d (pt_imul gx8_18 h4 h5 (fun v6 h6 => ?_))
  refine pt_d (pt_1 (fun n d => r_istore (L' := [some (.ref 41), some (.int x1), some (.int x2), some (.int x3), some (.int x4), some (.int v6), none, none, none, none]) gx8_19 rfl rfl) ?_)
  refine pt_d (pt_1 (fun n d => r_iload gx8_21 rfl) ?_)
  refine pt_d (pt_iconst gx8_23 (fun v7 h7 => ?_))
  refine pt_d (pt_icmp_ne gx8_24 z4 h7 (fun e8 => ?_) (fun e8 => ?_))
  · have H := H.1 e8
    refine pt_d (pt_1 (fun n d => r_iload gx8_43 rfl) ?_)
    refine pt_d (pt_1 (fun n d => r_istore (L' := [some (.ref 41), some (.int x1), some (.int x2), some (.int x3), some (.int x4), some (.int v6), some (.int x4), none, none, none]) gx8_45 rfl rfl) ?_)
    refine pt_d (pt_1 (fun n d => r_aloadn gx8_47 rfl) ?_)
    refine pt_d (pt_getR gx8_48 S1 tr_41_4 ?_)
    refine pt_d (pt_iconst gx8_51 (fun v10 h10 => ?_))
    refine pt_d (pt_iald (N' := 13) gx8_52 S1 tl_43 h10 (fun v11 p11 q11 h11 => ?_))
    refine pt_d (pt_bipush gx8_53 (fun v12 h12 => ?_))
    refine pt_d (pt_1 (fun n d => r_aloadn gx8_55 rfl) ?_)
    refine pt_d (pt_getR gx8_56 S1 tr_41_4 ?_)
    refine pt_d (pt_bipush gx8_59 (fun v14 h14 => ?_))
    refine pt_d (pt_iald (N' := 13) gx8_61 S1 tl_43 h14 (fun v15 p15 q15 h15 => ?_))
    refine pt_d (pt_imul gx8_62 h12 h15 (fun v16 h16 => ?_))
    refine pt_d (pt_min gx8_63 rfl h11 h16 (fun v17 h17 => ?_))
    refine pt_d (pt_1 (fun n d => r_istore (L' := [some (.ref 41), some (.int x1), some (.int x2), some (.int x3), some (.int x4), some (.int v6), some (.int x4), some (.int v17), none, none]) gx8_66 rfl rfl) ?_)
    exact H v6 v17 h6 h17
  · have H := H.2 e8
    refine pt_d (pt_1 (fun n d => r_aloadn gx8_27 rfl) ?_)
    refine pt_d (pt_getR gx8_28 S1 tr_41_2 ?_)
    refine pt_d (pt_1 (fun n d => r_iload gx8_31 rfl) ?_)
    refine pt_d (pt_iconst gx8_33 (fun v19 h19 => ?_))
    refine pt_d (pt_iadd gx8_34 h6 h19 (fun v20 h20 => ?_))
    refine pt_d (pt_1 (fun n d => r_iloadn gx8_35 rfl) ?_)
    refine pt_d (pt_1 (fun n d => r_iloadn gx8_36 rfl) ?_)
    obtain ⟨pr21, H⟩ := H
    refine pt_d (pt_virt (as := [.int v20, .int x2, .int x3]) (r := []) gx8_37 rfl (show zmt[120]? = some zM120 from rfl) rfl rfl rfl rfl (c_120 S1 h20 z2 z3 pr21) (kqP (fun v21 h21 => ?_)))
    show Pt _ _ _ 40 _ [.int v21] _ _
    refine pt_d (pt_1 (fun n d => r_goto gx8_40) ?_)
    refine pt_d (pt_1 (fun n d => r_istore (L' := [some (.ref 41), some (.int x1), some (.int x2), some (.int x3), some (.int x4), some (.int v6), some (.int v21), none, none, none]) gx8_45 rfl rfl) ?_)
    refine pt_d (pt_1 (fun n d => r_aloadn gx8_47 rfl) ?_)
    refine pt_d (pt_getR gx8_48 S1 tr_41_4 ?_)
    refine pt_d (pt_iconst gx8_51 (fun v23 h23 => ?_))
    refine pt_d (pt_iald (N' := 13) gx8_52 S1 tl_43 h23 (fun v24 p24 q24 h24 => ?_))
    refine pt_d (pt_bipush gx8_53 (fun v25 h25 => ?_))
    refine pt_d (pt_1 (fun n d => r_aloadn gx8_55 rfl) ?_)
    refine pt_d (pt_getR gx8_56 S1 tr_41_4 ?_)
    refine pt_d (pt_bipush gx8_59 (fun v27 h27 => ?_))
    refine pt_d (pt_iald (N' := 13) gx8_61 S1 tl_43 h27 (fun v28 p28 q28 h28 => ?_))
    refine pt_d (pt_imul gx8_62 h25 h28 (fun v29 h29 => ?_))
    refine pt_d (pt_min gx8_63 rfl h24 h29 (fun v30 h30 => ?_))
    refine pt_d (pt_1 (fun n d => r_istore (L' := [some (.ref 41), some (.int x1), some (.int x2), some (.int x3), some (.int x4), some (.int v6), some (.int v21), some (.int v30), none, none]) gx8_66 rfl rfl) ?_)
    exact H v6 v21 v30 h6 h21 h30
theorem d8_68 {n : Nat} {X : aX} {h : aH} {P : Int → aH → Prop} {x1 x2 x3 x4 x5 x6 x7 : Int32} {a1 a2 a3 a4 a5 a6 a7 : Int} (S : wS h) (z1 : x1.toInt = a1) (z2 : x2.toInt = a2) (z3 : x3.toInt = a3) (z4 : x4.toInt = a4) (z5 : x5.toInt = a5) (z6 : x6.toInt = a6) (z7 : x7.toInt = a7) (H : ((a6 ≠ (-1) → ((tOK (vw h) a6) ∧ ∀ (y5 : Int) (h_5 : aH), (wS h_5 ∧ R121 (vw h) a6 y5 (vw h_5)) → (∀ (w8 : Int64), w8.toInt = y5 → Pt n X zM8 94 [some (.ref 41), some (.int x1), some (.int x2), some (.int x3), some (.int x4), some (.int x5), some (.int x6), some (.int x7), some (.long w8), none] [] h_5 (qI P)))) ∧ (a6 = (-1) → (∀ (w8 : Int64), w8.toInt = 1 → Pt n X zM8 94 [some (.ref 41), some (.int x1), some (.int x2), some (.int x3), some (.int x4), some (.int x5), some (.int x6), some (.int x7), some (.long w8), none] [] h (qI P))))) : Pt (n + 1) X zM8 68 [some (.ref 41), some (.int x1), some (.int x2), some (.int x3), some (.int x4), some (.int x5), some (.int x6), some (.int x7), none, none] [] h (qI P) := by
  refine pt_1 (fun n d => r_iload gx8_68 rfl) ?_
  refine pt_d (pt_iconst gx8_70 (fun v1 h1 => ?_))
  refine pt_d (pt_icmp_ne gx8_71 z6 h1 (fun e2 => ?_) (fun e2 => ?_))
  · have H := H.1 e2
    refine pt_d (pt_1 (fun n d => r_aloadn gx8_78 rfl) ?_)
    refine pt_d (pt_getR gx8_79 S tr_41_2 ?_)
    refine pt_d (pt_1 (fun n d => r_iload gx8_82 rfl) ?_)
    refine pt_d (pt_1 (fun n d => r_aloadn gx8_84 rfl) ?_)
    refine pt_d (pt_getR gx8_85 S tr_41_4 ?_)
    obtain ⟨pr5, H⟩ := H
    refine pt_d (pt_virt (as := [.int x6, .ref 43]) (r := []) gx8_88 rfl (show zmt[121]? = some zM121 from rfl) rfl rfl rfl rfl (c_121 S z6 pr5) (kqI (fun v5 y5 h_5 h5 P5 => ?_)))
    have S5 := P5.1
    have H := H y5 h_5 P5
    show Pt _ _ _ 91 _ [.int v5] _ _
    refine pt_d (pt_i2l gx8_91 h5 (fun v6 h6 => ?_))
    refine pt_d (pt_1 (fun n d => r_lstore (L' := [some (.ref 41), some (.int x1), some (.int x2), some (.int x3), some (.int x4), some (.int x5), some (.int x6), some (.int x7), some (.long v6), none]) gx8_92 rfl rfl) ?_)
    exact H v6 h6
  · have H := H.2 e2
    refine pt_d (pt_lconst (c := 1) gx8_74 rfl (fun v7 h7 => ?_))
    refine pt_d (pt_1 (fun n d => r_goto gx8_75) ?_)
    refine pt_d (pt_1 (fun n d => r_lstore (L' := [some (.ref 41), some (.int x1), some (.int x2), some (.int x3), some (.int x4), some (.int x5), some (.int x6), some (.int x7), some (.long v7), none]) gx8_92 rfl rfl) ?_)
    exact H v7 h7
theorem d8_94 {n : Nat} {X : aX} {h : aH} {P : Int → aH → Prop} {x1 x2 x3 x4 x5 x6 x7 : Int32} {x8 : Int64} {a1 a2 a3 a4 a5 a6 a7 a8 : Int} (S : wS h) (z1 : x1.toInt = a1) (z2 : x2.toInt = a2) (z3 : x3.toInt = a3) (z4 : x4.toInt = a4) (z5 : x5.toInt = a5) (z6 : x6.toInt = a6) (z7 : x7.toInt = a7) (z8 : x8.toInt = a8) (H : ((vw h 1 6 ≤ 200 ∧ vw h 1 4 ≤ 150) ∧ ∀ h_8 : aH, wS h_8 → vw h_8 = up (vw h) 45 1 (hel (w64 ((w64 (a8 * a7)) + (w64 (vlF (vw h) (cHl (vw h) a1 a2 a3) ((vw h) 1 4).toNat 0 a7))))) → ((0 ≤ vw h_8 33 7 ∧ vw h_8 33 7 ≤ 16) ∧ ((pTx (vw h_8) (stg (vw h_8) 37 38 39 (w32 (a5 + 1)) a2 a3 ((vw h_8) 33 7).toNat)) ∧ ∀ (y18 : Int) (h_18 : aH), (wS h_18 ∧ R11 (vw h_8) (hel (w64 ((w64 (a8 * a7)) + (w64 (vlF (vw h) (cHl (vw h) a1 a2 a3) ((vw h) 1 4).toNat 0 a7))))) (stg (vw h_8) 37 38 39 (w32 (a5 + 1)) a2 a3 ((vw h_8) 33 7).toNat) y18 (vw h_18)) → ∀ h_19 : aH, wS h_19 → vw h_19 = up (vw h_18) 45 2 y18 → ((0 ≤ vw h_19 33 7 ∧ vw h_19 33 7 ≤ 16) ∧ ((pTx (vw h_19) (stg (vw h_19) 37 38 39 (w32 (a5 + 2)) a2 a3 ((vw h_19) 33 7).toNat)) ∧ ∀ (y29 : Int) (h_29 : aH), (wS h_29 ∧ R12 (vw h_19) y18 (stg (vw h_19) 37 38 39 (w32 (a5 + 2)) a2 a3 ((vw h_19) 33 7).toNat) y29 (vw h_29)) → ∀ h_30 : aH, wS h_30 → vw h_30 = up (vw h_29) 45 3 y29 → ((0 ≤ vw h_30 33 7 ∧ vw h_30 33 7 ≤ 16) ∧ ((pTx (vw h_30) (stg (vw h_30) 37 38 39 (w32 (a5 + 3)) a2 a3 ((vw h_30) 33 7).toNat)) ∧ ∀ (y40 : Int) (h_40 : aH), (wS h_40 ∧ R13 (vw h_30) y29 (stg (vw h_30) 37 38 39 (w32 (a5 + 3)) a2 a3 ((vw h_30) 33 7).toNat) y40 (vw h_40)) → ∀ h_62 : aH, wS h_62 → vw h_62 = up (up (vw h_40) 45 4 y40) 45 5 (w32 (y40 - (w32 (jDiv (w64 (y40 * (min 100 (vw h_40 43 7)))) 100)))) → P (w32 (y40 - (w32 (jDiv (w64 (y40 * (min 100 (vw h_40 43 7)))) 100)))) h_62)))))))) : Pt (n + 1) X zM8 94 [some (.ref 41), some (.int x1), some (.int x2), some (.int x3), some (.int x4), some (.int x5), some (.int x6), some (.int x7), some (.long x8), none] [] h (qI P) := by
  refine pt_1 (fun n d => r_aloadn gx8_94 rfl) ?_
  refine pt_d (pt_getR gx8_95 S tr_41_6 ?_)
  refine pt_d (pt_iconst gx8_98 (fun v2 h2 => ?_))
  refine pt_d (pt_1 (fun n d => r_lload gx8_99 rfl) ?_)
  refine pt_d (pt_1 (fun n d => r_iload gx8_101 rfl) ?_)
  refine pt_d (pt_i2l gx8_103 z7 (fun v3 h3 => ?_))
  refine pt_d (pt_lmul gx8_104 z8 h3 (fun v4 h4 => ?_))
  refine pt_d (pt_1 (fun n d => r_aloadn gx8_105 rfl) ?_)
  refine pt_d (pt_1 (fun n d => r_iload gx8_106 rfl) ?_)
  refine pt_d (pt_1 (fun n d => r_iloadn gx8_108 rfl) ?_)
  refine pt_d (pt_1 (fun n d => r_iloadn gx8_109 rfl) ?_)
  refine pt_d (pt_1 (fun n d => r_iloadn gx8_110 rfl) ?_)
  obtain ⟨pr5, H⟩ := H
  refine pt_d (pt_virt (as := [.int x7, .int x1, .int x2, .int x3]) (r := [.long v4, .int v2, .ref 45]) gx8_111 rfl (show zmt[10]? = some zM10 from rfl) rfl rfl rfl rfl (c_10 S z7 z1 z2 z3 pr5) (kqPJ (fun v5 h5 => ?_)))
  show Pt _ _ _ 114 _ [.long v5, .long v4, .int v2, .ref 45] _ _
  refine pt_d (pt_ladd gx8_114 h4 h5 (fun v6 h6 => ?_))
  refine pt_d (pt_stat (as := [.long v6]) (r := [.int v2, .ref 45]) gx8_115 rfl (show zmt[9]? = some zM9 from rfl) rfl rfl rfl rfl (c_9 S h6) (kqP (fun v7 h7 => ?_)))
  show Pt _ _ _ 118 _ [.int v7, .int v2, .ref 45] _ _
  refine pt_d (pt_iast (N' := 6) gx8_118 S tl_45 h2 h7 (fun h_8 S8 p8 q8 e8 => ?_))
  refine pt_d (pt_1 (fun n d => r_aloadn gx8_119 rfl) ?_)
  refine pt_d (pt_getR gx8_120 S8 tr_41_6 ?_)
  refine pt_d (pt_iconst gx8_123 (fun v10 h10 => ?_))
  refine pt_d (pt_1 (fun n d => r_aloadn gx8_124 rfl) ?_)
  refine pt_d (pt_1 (fun n d => r_aloadn gx8_125 rfl) ?_)
  refine pt_d (pt_getR gx8_126 S8 tr_41_6 ?_)
  refine pt_d (pt_iconst gx8_129 (fun v12 h12 => ?_))
  refine pt_d (pt_iald (N' := 6) gx8_130 S8 tl_45 h12 (fun v13 p13 q13 h13 => ?_))
  have h13 : v13.toInt = hel (w64 ((w64 (a8 * a7)) + (w64 (vlF (vw h) (cHl (vw h) a1 a2 a3) ((vw h) 1 4).toNat 0 a7)))) := by rw [h13, e8, up_s]
  refine pt_d (pt_1 (fun n d => r_aloadn gx8_131 rfl) ?_)
  refine pt_d (pt_getR gx8_132 S8 tr_41_2 ?_)
  refine pt_d (pt_1 (fun n d => r_iload gx8_135 rfl) ?_)
  refine pt_d (pt_iconst gx8_137 (fun v15 h15 => ?_))
  refine pt_d (pt_iadd gx8_138 z5 h15 (fun v16 h16 => ?_))
  refine pt_d (pt_1 (fun n d => r_iloadn gx8_139 rfl) ?_)
  refine pt_d (pt_1 (fun n d => r_iloadn gx8_140 rfl) ?_)
  have H := H h_8 S8 (by rw [e8])
  obtain ⟨pr17, H⟩ := H
  refine pt_d (pt_virt (as := [.int v16, .int x2, .int x3]) (r := [.int v13, .ref 41, .int v10, .ref 45]) gx8_141 rfl (show zmt[120]? = some zM120 from rfl) rfl rfl rfl rfl (c_120 S8 h16 z2 z3 pr17) (kqP (fun v17 h17 => ?_)))
  show Pt _ _ _ 144 _ [.int v17, .int v13, .ref 41, .int v10, .ref 45] _ _
  obtain ⟨pr18, H⟩ := H
  refine pt_d (pt_virt (as := [.int v13, .int v17]) (r := [.int v10, .ref 45]) gx8_144 rfl (show zmt[11]? = some zM11 from rfl) rfl rfl rfl rfl (c_11 S8 h13 h17 pr18) (kqI (fun v18 y18 h_18 h18 P18 => ?_)))
  have S18 := P18.1
  have H := H y18 h_18 P18
  show Pt _ _ _ 147 _ [.int v18, .int v10, .ref 45] _ _
  refine pt_d (pt_iast (N' := 6) gx8_147 S18 tl_45 h10 h18 (fun h_19 S19 p19 q19 e19 => ?_))
  refine pt_d (pt_1 (fun n d => r_aloadn gx8_148 rfl) ?_)
  refine pt_d (pt_getR gx8_149 S19 tr_41_6 ?_)
  refine pt_d (pt_iconst gx8_152 (fun v21 h21 => ?_))
  refine pt_d (pt_1 (fun n d => r_aloadn gx8_153 rfl) ?_)
  refine pt_d (pt_1 (fun n d => r_aloadn gx8_154 rfl) ?_)
  refine pt_d (pt_getR gx8_155 S19 tr_41_6 ?_)
  refine pt_d (pt_iconst gx8_158 (fun v23 h23 => ?_))
  refine pt_d (pt_iald (N' := 6) gx8_159 S19 tl_45 h23 (fun v24 p24 q24 h24 => ?_))
  have h24 : v24.toInt = y18 := by rw [h24, e19, up_s]
  refine pt_d (pt_1 (fun n d => r_aloadn gx8_160 rfl) ?_)
  refine pt_d (pt_getR gx8_161 S19 tr_41_2 ?_)
  refine pt_d (pt_1 (fun n d => r_iload gx8_164 rfl) ?_)
  refine pt_d (pt_iconst gx8_166 (fun v26 h26 => ?_))
  refine pt_d (pt_iadd gx8_167 z5 h26 (fun v27 h27 => ?_))
  refine pt_d (pt_1 (fun n d => r_iloadn gx8_168 rfl) ?_)
  refine pt_d (pt_1 (fun n d => r_iloadn gx8_169 rfl) ?_)
  have H := H h_19 S19 (by rw [e19])
  obtain ⟨pr28, H⟩ := H
  refine pt_d (pt_virt (as := [.int v27, .int x2, .int x3]) (r := [.int v24, .ref 41, .int v21, .ref 45]) gx8_170 rfl (show zmt[120]? = some zM120 from rfl) rfl rfl rfl rfl (c_120 S19 h27 z2 z3 pr28) (kqP (fun v28 h28 => ?_)))
  show Pt _ _ _ 173 _ [.int v28, .int v24, .ref 41, .int v21, .ref 45] _ _
  obtain ⟨pr29, H⟩ := H
  refine pt_d (pt_virt (as := [.int v24, .int v28]) (r := [.int v21, .ref 45]) gx8_173 rfl (show zmt[12]? = some zM12 from rfl) rfl rfl rfl rfl (c_12 S19 h24 h28 pr29) (kqI (fun v29 y29 h_29 h29 P29 => ?_)))
  have S29 := P29.1
  have H := H y29 h_29 P29
  show Pt _ _ _ 176 _ [.int v29, .int v21, .ref 45] _ _
  refine pt_d (pt_iast (N' := 6) gx8_176 S29 tl_45 h21 h29 (fun h_30 S30 p30 q30 e30 => ?_))
  refine pt_d (pt_1 (fun n d => r_aloadn gx8_177 rfl) ?_)
  refine pt_d (pt_getR gx8_178 S30 tr_41_6 ?_)
  refine pt_d (pt_iconst gx8_181 (fun v32 h32 => ?_))
  refine pt_d (pt_1 (fun n d => r_aloadn gx8_182 rfl) ?_)
  refine pt_d (pt_1 (fun n d => r_aloadn gx8_183 rfl) ?_)
  refine pt_d (pt_getR gx8_184 S30 tr_41_6 ?_)
  refine pt_d (pt_iconst gx8_187 (fun v34 h34 => ?_))
  refine pt_d (pt_iald (N' := 6) gx8_188 S30 tl_45 h34 (fun v35 p35 q35 h35 => ?_))
  have h35 : v35.toInt = y29 := by rw [h35, e30, up_s]
  refine pt_d (pt_1 (fun n d => r_aloadn gx8_189 rfl) ?_)
  refine pt_d (pt_getR gx8_190 S30 tr_41_2 ?_)
  refine pt_d (pt_1 (fun n d => r_iload gx8_193 rfl) ?_)
  refine pt_d (pt_iconst gx8_195 (fun v37 h37 => ?_))
  refine pt_d (pt_iadd gx8_196 z5 h37 (fun v38 h38 => ?_))
  refine pt_d (pt_1 (fun n d => r_iloadn gx8_197 rfl) ?_)
  refine pt_d (pt_1 (fun n d => r_iloadn gx8_198 rfl) ?_)
  have H := H h_30 S30 (by rw [e30])
  obtain ⟨pr39, H⟩ := H
  refine pt_d (pt_virt (as := [.int v38, .int x2, .int x3]) (r := [.int v35, .ref 41, .int v32, .ref 45]) gx8_199 rfl (show zmt[120]? = some zM120 from rfl) rfl rfl rfl rfl (c_120 S30 h38 z2 z3 pr39) (kqP (fun v39 h39 => ?_)))
  show Pt _ _ _ 202 _ [.int v39, .int v35, .ref 41, .int v32, .ref 45] _ _
  obtain ⟨pr40, H⟩ := H
  refine pt_d (pt_virt (as := [.int v35, .int v39]) (r := [.int v32, .ref 45]) gx8_202 rfl (show zmt[13]? = some zM13 from rfl) rfl rfl rfl rfl (c_13 S30 h35 h39 pr40) (kqI (fun v40 y40 h_40 h40 P40 => ?_)))
  have S40 := P40.1
  have H := H y40 h_40 P40
  show Pt _ _ _ 205 _ [.int v40, .int v32, .ref 45] _ _
  refine pt_d (pt_iast (N' := 6) gx8_205 S40 tl_45 h32 h40 (fun h_41 S41 p41 q41 e41 => ?_))
  refine pt_d (pt_1 (fun n d => r_aloadn gx8_206 rfl) ?_)
  refine pt_d (pt_getR gx8_207 S41 tr_41_6 ?_)
  refine pt_d (pt_iconst gx8_210 (fun v43 h43 => ?_))
  refine pt_d (pt_1 (fun n d => r_aloadn gx8_211 rfl) ?_)
  refine pt_d (pt_getR gx8_212 S41 tr_41_6 ?_)
  refine pt_d (pt_iconst gx8_215 (fun v45 h45 => ?_))
  refine pt_d (pt_iald (N' := 6) gx8_216 S41 tl_45 h45 (fun v46 p46 q46 h46 => ?_))
  have h46 : v46.toInt = y40 := by rw [h46, e41, up_s]
  refine pt_d (pt_1 (fun n d => r_aloadn gx8_217 rfl) ?_)
  refine pt_d (pt_getR gx8_218 S41 tr_41_6 ?_)
  refine pt_d (pt_iconst gx8_221 (fun v48 h48 => ?_))
  refine pt_d (pt_iald (N' := 6) gx8_222 S41 tl_45 h48 (fun v49 p49 q49 h49 => ?_))
  have h49 : v49.toInt = y40 := by rw [h49, e41, up_s]
  refine pt_d (pt_i2l gx8_223 h49 (fun v50 h50 => ?_))
  refine pt_d (pt_bipush gx8_224 (fun v51 h51 => ?_))
  refine pt_d (pt_1 (fun n d => r_aloadn gx8_226 rfl) ?_)
  refine pt_d (pt_getR gx8_227 S41 tr_41_4 ?_)
  refine pt_d (pt_bipush gx8_230 (fun v53 h53 => ?_))
  refine pt_d (pt_iald (N' := 13) gx8_232 S41 tl_43 h53 (fun v54 p54 q54 h54 => ?_))
  have h54 : v54.toInt = vw h_40 43 7 := by rw [h54, e41, up_c (by decide)]
  refine pt_d (pt_min gx8_233 rfl h51 h54 (fun v55 h55 => ?_))
  refine pt_d (pt_i2l gx8_236 h55 (fun v56 h56 => ?_))
  refine pt_d (pt_lmul gx8_237 h50 h56 (fun v57 h57 => ?_))
  refine pt_d (pt_ldc2_w (c := 100) gx8_238 rfl (fun v58 h58 => ?_))
  refine pt_d (pt_ldiv gx8_241 h57 h58 (fun v59 h59 => ?_))
  refine pt_d (pt_l2i gx8_242 h59 (fun v60 h60 => ?_))
  refine pt_d (pt_isub gx8_243 h46 h60 (fun v61 h61 => ?_))
  refine pt_d (pt_iast (N' := 6) gx8_244 S41 tl_45 h43 h61 (fun h_62 S62 p62 q62 e62 => ?_))
  refine pt_d (pt_1 (fun n d => r_aloadn gx8_245 rfl) ?_)
  refine pt_d (pt_getR gx8_246 S62 tr_41_6 ?_)
  refine pt_d (pt_iconst gx8_249 (fun v64 h64 => ?_))
  refine pt_d (pt_iald (N' := 6) gx8_250 S62 tl_45 h64 (fun v65 p65 q65 h65 => ?_))
  have h65 : v65.toInt = w32 (y40 - (w32 (jDiv (w64 (y40 * (min 100 (vw h_40 43 7)))) 100))) := by rw [h65, e62, up_s]
  have H := H h_62 S62 (by rw [e62, e41])
  exact pt_d (pt_iret gx8_251 ⟨_, rfl, by rw [h65]; exact H⟩)
-- the sums, step by step
noncomputable def TT (V : vS) (f y t u : Int) : Int := stg V 37 38 39 (10 * V 3 f + u) y t (V 33 7).toNat
noncomputable def sqr (N : Int → Int) : Int := min (N 3) (w32 (10 * N 9))
noncomputable def s1F (V : vS) (f y t by' sq : Int) : Int := hel (w64 (w64 (by' * sq) + w64 (vlF V (cHl V f y t) (V 1 4).toNat 0 sq)))
noncomputable def s2F (V : vS) (N : Int → Int) (f y t s : Int) : Int := grn s (tv V N (TT V f y t 1) 1)
noncomputable def s3F (V : vS) (N : Int → Int) (f y t s : Int) : Int := spF V N s (TT V f y t 2)
noncomputable def s4F (V : vS) (N : Int → Int) (f y t s : Int) : Int := fin V N s (TT V f y t 3)
def s5F (N : Int → Int) (s : Int) : Int := w32 (s - w32 (jDiv (w64 (s * min 100 (N 7))) 100))
-- what is left as it was
def pag (V W : vS) : Prop := ∀ (c : Nat) j, c < 40 → (c ≠ 33 ∨ (j < 9 ∨ 14 < j)) → W c j = V c j
theorem pag_t {V V1 W : vS} (a : pag V V1) (b : pag V1 W) : pag V W := fun c j u v => (b c j u v).trans (a c j u v)
theorem stg_k {V W : vS} (a : pag V W) (w y t : Int) : ∀ n : Nat, stg W 37 38 39 w y t n = stg V 37 38 39 w y t n
  | 0 => rfl
  | n + 1 => by
    unfold stg
    rw [stg_k a w y t n, a 37 _ (by decide) (Or.inl (by decide)), a 38 _ (by decide) (Or.inl (by decide)), a 39 _ (by decide) (Or.inl (by decide))]
theorem TT_k {V W : vS} (a : pag V W) (f y t u : Int) : TT W f y t u = TT V f y t u := by
  unfold TT
  rw [stg_k a, a 33 7 (by decide) (Or.inr (by decide)), a 3 f (by decide) (Or.inl (by decide))]
theorem oT_p {V W : vS} (a : pag V W) (t : Int) : oT W t = oT V t := oT_k (fun j => a 35 j (by decide) (Or.inl (by decide))) (fun j => a 36 j (by decide) (Or.inl (by decide))) t
theorem cHl_k {V W : vS} (a : pag V W) (f y t i : Int) : cHl W f y t i ↔ cHl V f y t i := by
  unfold cHl
  rw [a 6 i (by decide) (Or.inl (by decide)), cHold_f (V := V) (fun c j u => a c j (by omega) (Or.inl (by omega)))]
theorem s1_k {V W : vS} (a : pag V W) (f y t b q : Int) : s1F W f y t b q = s1F V f y t b q := by
  unfold s1F
  rw [vlF_k (V := V) (fun j => a 3 j (by decide) (Or.inl (by decide))) (fun j => a 6 j (by decide) (Or.inl (by decide))) (fun i => cHl_k a f y t i), a 1 4 (by decide) (Or.inl (by decide))]
theorem tv_k {V W : vS} (a : pag V W) {N N' : Int → Int} (h : ∀ j, 0 ≤ j → j ≤ 12 → N j = N' j) (t d : Int) : tv W N t d = tv V N' t d := by
  unfold tv
  rw [oT_p a, tSay_k h]
theorem s2_k {V W : vS} (a : pag V W) {N N' : Int → Int} (h : ∀ j, 0 ≤ j → j ≤ 12 → N j = N' j) (f y t s : Int) : s2F W N f y t s = s2F V N' f y t s := by
  unfold s2F
  rw [TT_k a, tv_k a h]
theorem Nm_k {N N' : Int → Int} (h : ∀ j, 0 ≤ j → j ≤ 12 → N j = N' j) (s : Int) : ∀ j, 0 ≤ j → j ≤ 12 → Nm N s j = Nm N' s j := fun j a b => by
  unfold Nm
  rw [h j a b]
theorem s3_k {V W : vS} (a : pag V W) {N N' : Int → Int} (h : ∀ j, 0 ≤ j → j ≤ 12 → N j = N' j) (f y t s : Int) : s3F W N f y t s = s3F V N' f y t s := by
  unfold s3F spF
  rw [TT_k a, oT_p a, tSay_k (Nm_k h s)]
theorem s4_k {V W : vS} (a : pag V W) {N N' : Int → Int} (h : ∀ j, 0 ≤ j → j ≤ 12 → N j = N' j) (f y t s : Int) : s4F W N f y t s = s4F V N' f y t s := by
  unfold s4F fin
  rw [TT_k a, oT_p a, tSay_k h, h 11 (by decide) (by decide)]
theorem sL_k {V W : vS} (a : pag V W) {N N' : Int → Int} (h : ∀ j, 0 ≤ j → j ≤ 12 → N j = N' j) (f y t : Int) : lin W N (TT W f y t 3) = lin V N' (TT V f y t 3) := by
  unfold lin
  rw [TT_k a, oT_p a, tSay_k h]
theorem s5_k {N N' : Int → Int} (h : ∀ j, 0 ≤ j → j ≤ 12 → N j = N' j) (s : Int) : s5F N s = s5F N' s := by
  unfold s5F
  rw [h 7 (by decide) (by decide)]
def TX (V : vS) : Prop := (0 ≤ V 33 7 ∧ V 33 7 ≤ 16) ∧ ∀ t, 0 ≤ t → t < V 33 7 → tOK V t
theorem TX_k {V W : vS} (a : pag V W) (T : TX V) : TX W := by
  have e := a 33 7 (by decide) (Or.inr (by decide))
  unfold TX
  rw [e]
  exact ⟨T.1, fun t t0 t1 => tOK_k (fun j => a 35 j (by decide) (Or.inl (by decide))) (fun j => a 36 j (by decide) (Or.inl (by decide))) (T.2 t t0 t1)⟩
theorem stg_r {V : vS} {cw cy cd : Nat} {w y d : Int} : ∀ n : Nat, stg V cw cy cd w y d n = -1 ∨ (0 ≤ stg V cw cy cd w y d n ∧ stg V cw cy cd w y d n < (n : Int))
  | 0 => Or.inl rfl
  | n + 1 => by
    unfold stg
    split
    · exact Or.inr ⟨by omega, by omega⟩
    · rcases stg_r (V := V) (cw := cw) (cy := cy) (cd := cd) (w := w) (y := y) (d := d) n with e | e
      · exact Or.inl e
      · exact Or.inr ⟨e.1, by omega⟩
theorem TX_p {V : vS} (T : TX V) (w y d : Int) : pTx V (stg V 37 38 39 w y d (V 33 7).toNat) := fun ne => by
  rcases stg_r (V := V) (cw := 37) (cy := 38) (cd := 39) (w := w) (y := y) (d := d) (V 33 7).toNat with e | e
  · exact absurd e ne
  · exact T.2 _ e.1 (by omega)

theorem l_94 {n : Nat} {X : aX} {h : aH} {x1 x2 x3 x4 x5 x6 x7 : Int32} {x8 : Int64} {f y t l q b : Int} {N : Int → Int} (S : wS h) (z1 : x1.toInt = f) (z2 : x2.toInt = y) (z3 : x3.toInt = t) (z5 : x5.toInt = 10 * l) (z7 : x7.toInt = q) (z8 : x8.toInt = b) (hl : vw h 3 f = l ∧ 0 ≤ l ∧ l ≤ 3) (hp : vw h 1 6 ≤ 200 ∧ vw h 1 4 ≤ 150) (T : TX (vw h)) (hN : ∀ j, vw h 43 j = N j) (hN10 : N 10 = 0) : Pt n X zM8 94 [some (.ref 41), some (.int x1), some (.int x2), some (.int x3), some (.int x4), some (.int x5), some (.int x6), some (.int x7), some (.long x8), none] [] h (qI (fun r h' => ∃ s1 s2 s3 s4, s1 = s1F (vw h) f y t b q ∧ s2 = s2F (vw h) N f y t s1 ∧ s3 = s3F (vw h) N f y t s2 ∧ s4 = s4F (vw h) N f y t s3 ∧ r = s5F N s4 ∧ (vw h' 45 1 = s1 ∧ vw h' 45 2 = s2 ∧ vw h' 45 3 = s3 ∧ vw h' 45 4 = s4 ∧ vw h' 45 5 = r) ∧ vw h' 41 7 = lin (vw h) N (TT (vw h) f y t 3) ∧ ∀ c j, (c ≠ 33 ∨ (j < 9 ∨ 14 < j)) → c ≠ 45 → (c ≠ 41 ∨ j ≠ 7) → vw h' c j = vw h c j)) := by
  obtain ⟨hl, l0, l3⟩ := hl
  have eu : ∀ u : Int, 0 ≤ u → u ≤ 3 → w32 (10 * l + u) = 10 * l + u := fun u a b => w32_id (by omega) (by omega)
  refine pt_d (d8_94 S z1 z2 z3 rfl z5 rfl z7 z8 ⟨hp, fun h8 S8 e8 => ?_⟩)
  rw [eu 1 (by decide) (by decide), eu 2 (by decide) (by decide), eu 3 (by decide) (by decide)]
  have a8 : pag (vw h) (vw h8) := fun c j u _ => by rw [e8, up_c (by omega)]
  have T8 := TX_k a8 T
  have n8 : (fun j => vw h8 43 j) = N := funext fun j => by rw [e8, up_c (by decide), hN]
  refine ⟨T8.1, TX_p T8 _ _ _, fun y18 h18 k18 h19 S19 e19 => ?_⟩
  obtain ⟨S18, k18, f18⟩ := k18
  have t8 : ∀ u, stg (vw h8) 37 38 39 (10 * l + u) y t (vw h8 33 7).toNat = TT (vw h) f y t u := fun u => by
    have := TT_k a8 f y t u
    unfold TT at this ⊢
    rw [← this, a8 3 f (by decide) (Or.inl (by decide)), hl]
  rw [t8, n8, tv_k a8 (N' := N) (fun _ _ _ => rfl)] at k18
  have a19 : pag (vw h) (vw h19) := fun c j u v => by rw [e19, up_c (by omega), f18 c j v, a8 c j u v]
  have T19 := TX_k a19 T
  have n19 : (fun j => vw h19 43 j) = N := funext fun j => by rw [e19, up_c (by decide), f18 43 j (Or.inl (by decide))]; exact congrFun n8 j
  refine ⟨T19.1, TX_p T19 _ _ _, fun y29 h29 k29 h30 S30 e30 => ?_⟩
  obtain ⟨S29, k29, k10, f29⟩ := k29
  have t19 : ∀ u, stg (vw h19) 37 38 39 (10 * l + u) y t (vw h19 33 7).toNat = TT (vw h) f y t u := fun u => by
    have := TT_k a19 f y t u
    unfold TT at this ⊢
    rw [← this, a19 3 f (by decide) (Or.inl (by decide)), hl]
  rw [t19, n19] at k29
  have a30 : pag (vw h) (vw h30) := fun c j u v => by rw [e30, up_c (by omega), f29 c j v (Or.inl (by omega)), a19 c j u v]
  have T30 := TX_k a30 T
  have n30 : (fun j => vw h30 43 j) = N := funext fun j => by
    rw [e30, up_c (by decide)]
    by_cases z : j = 10
    · have w := congrFun n19 10
      have w : vw h19 43 10 = N 10 := w
      rw [z, hN10]
      rcases k10 with k | k
      · rw [k, w, hN10]
      · exact k
    · rw [f29 43 j (Or.inl (by decide)) (Or.inr z)]
      exact congrFun n19 j
  refine ⟨T30.1, TX_p T30 _ _ _, fun y40 h40 k40 h62 S62 e62 => ?_⟩
  obtain ⟨S40, k40, k41, f40⟩ := k40
  have t30 : ∀ u, stg (vw h30) 37 38 39 (10 * l + u) y t (vw h30 33 7).toNat = TT (vw h) f y t u := fun u => by
    have := TT_k a30 f y t u
    unfold TT at this ⊢
    rw [← this, a30 3 f (by decide) (Or.inl (by decide)), hl]
  rw [t30, n30] at k40 k41
  have e7 : vw h40 43 7 = N 7 := by rw [f40 43 7 (Or.inl (by decide)) (Or.inl (by decide))]; exact congrFun n30 7
  rw [e7] at e62 ⊢
  have x18 : ∀ j, j ≠ 1 → vw h8 45 j = vw h 45 j := fun j z => by rw [e8, up_j z]
  have i1 : vw h8 45 1 = s1F (vw h) f y t b q := by rw [e8, up_s]; rfl
  have i19 : ∀ j, j ≠ 2 → vw h19 45 j = vw h8 45 j := fun j z => by rw [e19, up_j z, f18 45 j (Or.inl (by decide))]
  have j19 : vw h19 45 2 = y18 := by rw [e19, up_s]
  have i30 : ∀ j, j ≠ 3 → vw h30 45 j = vw h19 45 j := fun j z => by rw [e30, up_j z, f29 45 j (Or.inl (by decide)) (Or.inl (by decide))]
  have j30 : vw h30 45 3 = y29 := by rw [e30, up_s]
  have i40 : ∀ j, vw h40 45 j = vw h30 45 j := fun j => f40 45 j (Or.inl (by decide)) (Or.inl (by decide))
  refine ⟨_, y18, y29, y40, rfl, k18, ?_, ?_, rfl, ⟨?_, ?_, ?_, ?_, ?_⟩, ?_, fun c j u v w => ?_⟩
  · rw [k29]
    unfold s3F spF
    rw [oT_p a19]
  · rw [k40]
    unfold s4F fin
    rw [oT_p a30]
  · rw [e62, up_j (by decide), up_j (by decide), i40, i30 1 (by decide), i19 1 (by decide), i1]
  · rw [e62, up_j (by decide), up_j (by decide), i40, i30 2 (by decide), j19]
  · rw [e62, up_j (by decide), up_j (by decide), i40, j30]
  · rw [e62, up_j (by decide), up_s]
  · rw [e62, up_s]
  · rw [e62, up_c (by decide), up_c (by decide), k41]
    unfold lin
    rw [oT_p a30]
  · have z10 : vw h29 c j = vw h19 c j := by
      by_cases z : c = 43 ∧ j = 10
      · obtain ⟨rfl, rfl⟩ := z
        rcases k10 with k | k
        · exact k
        · rw [k]
          have w' := congrFun n19 10
          have w' : vw h19 43 10 = N 10 := w'
          rw [w', hN10]
      · exact f29 c j u (by
          by_cases z1 : c = 43
          · exact Or.inr (fun z2 => z ⟨z1, z2⟩)
          · exact Or.inl z1)
    rw [e62, up_c v, up_c v, f40 c j u w, e30, up_c v, z10, e19, up_c v, f18 c j u, e8, up_c v]

noncomputable def p1F (V : vS) (N : Int → Int) (f y t r : Int) : Int := s1F V f y t (tv V N (if r = -1 then TT V f y t 0 else r) 1) (sqr N)
noncomputable def p2F (V : vS) (N : Int → Int) (f y t r : Int) : Int := s2F V N f y t (p1F V N f y t r)
noncomputable def p3F (V : vS) (N : Int → Int) (f y t r : Int) : Int := s3F V N f y t (p2F V N f y t r)
noncomputable def p4F (V : vS) (N : Int → Int) (f y t r : Int) : Int := s4F V N f y t (p3F V N f y t r)
noncomputable def p5F (V : vS) (N : Int → Int) (f y t r : Int) : Int := s5F N (p4F V N f y t r)
noncomputable def pLF (V : vS) (N : Int → Int) (f y t : Int) : Int := lin V N (TT V f y t 3)
def PAID (V : vS) (N : Int → Int) (f y t r : Int) (s : Int → Int) (fl : Int) : Prop := (s 1 = p1F V N f y t r ∧ s 2 = p2F V N f y t r ∧ s 3 = p3F V N f y t r ∧ s 4 = p4F V N f y t r ∧ s 5 = p5F V N f y t r) ∧ fl = pLF V N f y t
theorem p1_k {V W : vS} (a : pag V W) {N N' : Int → Int} (h : ∀ j, 0 ≤ j → j ≤ 12 → N j = N' j) (f y t r : Int) : p1F W N f y t r = p1F V N' f y t r := by
  unfold p1F sqr
  rw [s1_k a, tv_k a h, TT_k a, h 3 (by decide) (by decide), h 9 (by decide) (by decide)]
theorem p2_k {V W : vS} (a : pag V W) {N N' : Int → Int} (h : ∀ j, 0 ≤ j → j ≤ 12 → N j = N' j) (f y t r : Int) : p2F W N f y t r = p2F V N' f y t r := by
  unfold p2F
  rw [p1_k a h, s2_k a h]
theorem p3_k {V W : vS} (a : pag V W) {N N' : Int → Int} (h : ∀ j, 0 ≤ j → j ≤ 12 → N j = N' j) (f y t r : Int) : p3F W N f y t r = p3F V N' f y t r := by
  unfold p3F
  rw [p2_k a h, s3_k a h]
theorem p4_k {V W : vS} (a : pag V W) {N N' : Int → Int} (h : ∀ j, 0 ≤ j → j ≤ 12 → N j = N' j) (f y t r : Int) : p4F W N f y t r = p4F V N' f y t r := by
  unfold p4F
  rw [p3_k a h, s4_k a h]
theorem p5_k {V W : vS} (a : pag V W) {N N' : Int → Int} (h : ∀ j, 0 ≤ j → j ≤ 12 → N j = N' j) (f y t r : Int) : p5F W N f y t r = p5F V N' f y t r := by
  unfold p5F
  rw [p4_k a h, s5_k h]
theorem PAID_k {V W : vS} (a : pag V W) {N N' : Int → Int} (h : ∀ j, 0 ≤ j → j ≤ 12 → N j = N' j) {f y t r : Int} {s : Int → Int} {fl : Int} (p : PAID V N' f y t r s fl) : PAID W N f y t r s fl := by
  unfold PAID pLF at *
  rw [p1_k a h, p2_k a h, p3_k a h, p4_k a h, p5_k a h, sL_k a h]
  exact p
def pr8 (h : aH) (f y r : Int) : Prop := ((IV h ∧ AP (vw h)) ∧ (0 ≤ f ∧ f < 150) ∧ (0 ≤ y ∧ y ≤ 9) ∧ vw h 1 6 ≤ 200 ∧ vw h 1 4 ≤ 150) ∧ TX (vw h) ∧ (0 ≤ vw h 3 f ∧ vw h 3 f ≤ 3) ∧ (r = -1 ∨ (0 ≤ r ∧ r < vw h 33 7))
def R8 (h : aH) (f y t r v : Int) (h' : aH) : Prop := (∃ h1, R2 h f y t h1 ∧ PAID (vw h) (fun j => vw h1 43 j) f y t r (fun j => vw h' 45 j) (vw h' 41 7) ∧ v = vw h' 45 5) ∧ ∀ (c : Nat) j, c < 146 → c ≠ 42 → c ≠ 43 → c ≠ 44 → (c ≠ 33 ∨ (j < 9 ∨ 14 < j)) → c ≠ 45 → (c ≠ 41 ∨ j ≠ 7) → vw h' c j = vw h c j
theorem R2_fr {h h' : aH} {f y t : Int} (R : R2 h f y t h') : ∀ (c : Nat) j, c < 146 → c ≠ 42 → c ≠ 43 → c ≠ 44 → vw h' c j = vw h c j := by
  obtain ⟨-, q, g1, g4, r, -, -, F, -⟩ := R
  exact F
theorem R2_10 {h h' : aH} {f y t : Int} (R : R2 h f y t h') : vw h' 43 10 = 0 := by
  obtain ⟨-, q, g1, g4, r, -, -, -, N12, -⟩ := R
  rw [N12 10 (by decide) (by decide), nT_10]
theorem c_8 {n : Nat} {X : aX} {h : aH} {x1 x2 x3 x4 : Int32} {a1 a2 a3 a4 : Int} (S : wS h) (z1 : x1.toInt = a1) (z2 : x2.toInt = a2) (z3 : x3.toInt = a3) (z4 : x4.toInt = a4) (hp : pr8 h a1 a2 a4) : Pt n X zM8 0 [some (.ref 41), some (.int x1), some (.int x2), some (.int x3), some (.int x4), none, none, none, none, none] [] h (qI (fun v h' => (wS h' ∧ IV h') ∧ R8 h a1 a2 a3 a4 v h')) := by
  obtain ⟨p1, T, hl, hr⟩ := hp
  refine pt_q (pt_and (wk_8 S z1 z2 z3 z4 p1.1.1) (show Pt n X zM8 0 [some (.ref 41), some (.int x1), some (.int x2), some (.int x3), some (.int x4), none, none, none, none, none] [] h (qI (fun v h' => R8 h a1 a2 a3 a4 v h')) from ?_)) ?_
  · refine pt_d (d8_0 S z1 z2 z3 z4 ⟨p1, fun h1 R _ _ => ?_⟩)
    obtain ⟨S1, R⟩ := R
    have F := R2_fr R
    have a : pag (vw h) (vw h1) := fun c j u _ => F c j (by omega) (by omega) (by omega) (by omega)
    have e3 : vw h1 3 a1 = vw h 3 a1 := F 3 a1 (by decide) (by decide) (by decide) (by decide)
    have e10 := R2_10 R
    have T1 := TX_k a T
    have wl : w32 (vw h 3 a1 * 10) = 10 * vw h 3 a1 := by rw [Int.mul_comm, w32_id (by omega) (by omega)]
    have w0 : w32 (10 * vw h 3 a1 + 0) = 10 * vw h 3 a1 + 0 := w32_id (by omega) (by omega)
    have hp1 : vw h1 1 6 ≤ 200 ∧ vw h1 1 4 ≤ 150 := by rw [F 1 6 (by decide) (by decide) (by decide) (by decide), F 1 4 (by decide) (by decide) (by decide) (by decide)]; exact p1.2.2.2
    rw [e3, wl, w0]
    -- from the text's number on
    have go : ∀ (w5 w6 w7 : Int32) (t0 : Int), w5.toInt = 10 * vw h 3 a1 → w6.toInt = t0 → w7.toInt = sqr (fun j => vw h1 43 j) → t0 = (if a4 = -1 then TT (vw h) a1 a2 a3 0 else a4) → pTx (vw h1) t0 → Pt n X zM8 68 [some (.ref 41), some (.int x1), some (.int x2), some (.int x3), some (.int x4), some (.int w5), some (.int w6), some (.int w7), none, none] [] h1 (qI (fun v h' => R8 h a1 a2 a3 a4 v h')) := by
      intro w5 w6 w7 t0 g5 g6 g7 et pt0
      have fin' : ∀ (g : aH) (w8 : Int64) (b : Int), wS g → (∀ c j, (c ≠ 33 ∨ (j < 9 ∨ 14 < j)) → vw g c j = vw h1 c j) → w8.toInt = b → b = tv (vw h1) (fun j => vw h1 43 j) t0 1 → Pt n X zM8 94 [some (.ref 41), some (.int x1), some (.int x2), some (.int x3), some (.int x4), some (.int w5), some (.int w6), some (.int w7), some (.long w8), none] [] g (qI (fun v h' => R8 h a1 a2 a3 a4 v h')) := by
        intro g w8 b Sg Fg g8 eb
        have ag : pag (vw h1) (vw g) := fun c j _ v => Fg c j v
        have ahg := pag_t a ag
        have eg3 : vw g 3 a1 = vw h 3 a1 := (Fg 3 a1 (Or.inl (by decide))).trans e3
        refine pt_q (l_94 (N := fun j => vw h1 43 j) Sg z1 z2 z3 g5 g7 g8 ⟨eg3, hl⟩ (by rw [Fg 1 6 (Or.inl (by decide)), Fg 1 4 (Or.inl (by decide))]; exact hp1) (TX_k ag T1) (fun j => Fg 43 j (Or.inl (by decide))) e10) ?_
        rintro v h' ⟨x, ex, s1, s2, s3, s4, q1, q2, q3, q4, q5, ⟨i1, i2, i3, i4, i5⟩, iL, fr⟩
        refine ⟨x, ex, ⟨h1, R, ⟨⟨?_, ?_, ?_, ?_, ?_⟩, ?_⟩, i5.symm⟩, fun c j c1 c2 c3 c4 c5 c6 c7 => ?_⟩
        · show vw h' 45 1 = _
          rw [i1, q1, s1_k ahg, eb, tv_k a (N' := fun j => vw h1 43 j) (fun _ _ _ => rfl), et]
          rfl
        · show vw h' 45 2 = _
          rw [i2, q2, s2_k ahg (N' := fun j => vw h1 43 j) (fun _ _ _ => rfl), q1, s1_k ahg, eb, tv_k a (N' := fun j => vw h1 43 j) (fun _ _ _ => rfl), et]
          rfl
        · show vw h' 45 3 = _
          rw [i3, q3, s3_k ahg (N' := fun j => vw h1 43 j) (fun _ _ _ => rfl), q2, s2_k ahg (N' := fun j => vw h1 43 j) (fun _ _ _ => rfl), q1, s1_k ahg, eb, tv_k a (N' := fun j => vw h1 43 j) (fun _ _ _ => rfl), et]
          rfl
        · show vw h' 45 4 = _
          rw [i4, q4, s4_k ahg (N' := fun j => vw h1 43 j) (fun _ _ _ => rfl), q3, s3_k ahg (N' := fun j => vw h1 43 j) (fun _ _ _ => rfl), q2, s2_k ahg (N' := fun j => vw h1 43 j) (fun _ _ _ => rfl), q1, s1_k ahg, eb, tv_k a (N' := fun j => vw h1 43 j) (fun _ _ _ => rfl), et]
          rfl
        · show vw h' 45 5 = _
          rw [i5, q5, q4, s4_k ahg (N' := fun j => vw h1 43 j) (fun _ _ _ => rfl), q3, s3_k ahg (N' := fun j => vw h1 43 j) (fun _ _ _ => rfl), q2, s2_k ahg (N' := fun j => vw h1 43 j) (fun _ _ _ => rfl), q1, s1_k ahg, eb, tv_k a (N' := fun j => vw h1 43 j) (fun _ _ _ => rfl), et]
          rfl
        · rw [iL, sL_k ahg (N' := fun j => vw h1 43 j) (fun _ _ _ => rfl)]
          rfl
        · rw [fr c j c5 c6 c7, Fg c j c5]
          exact F c j c1 c2 c3 c4
      refine pt_d (d8_68 S1 z1 z2 z3 z4 g5 g6 g7 ⟨fun ne => ⟨pt0 ne, fun y5 h5 k5 w8 g8 => fin' h5 w8 y5 k5.1 k5.2.2.2 g8 ?_⟩, fun e w8 g8 => fin' h1 w8 1 S1 (fun _ _ _ => rfl) g8 ?_⟩)
      · unfold tv
        rw [if_neg ne]
        exact k5.2.1
      · unfold tv
        rw [if_pos e]
    refine ⟨fun ne w5 w7 g5 g7 => go w5 x4 w7 a4 g5 z4 g7 (if_neg ne).symm (fun _ => ?_), fun e => ⟨T1.1, fun w5 w6 w7 g5 g6 g7 => go w5 w6 w7 _ g5 g6 g7 ?_ (TX_p T1 _ _ _)⟩⟩
    · refine T1.2 a4 (by omega) ?_
      rw [F 33 7 (by decide) (by decide) (by decide) (by decide)]
      omega
    · rw [if_pos e, ← TT_k a]
      unfold TT
      rw [e3]
  · rintro v h' ⟨⟨x, rfl, p1, -, p3⟩, ⟨x', ev, p4⟩⟩
    exact ⟨x', ev, ⟨p1, p3⟩, p4⟩
end
section
-- ===== what a farm is paid: the reference =====
theorem d276_0 {n : Nat} {X : aX} {h : aH} {P : Int → aH → Prop} {x0 : Int64} {a0 : Int} (S : wS h) (z0 : x0.toInt = a0) (H : ((0 ≤ a0 → ((a0 ≤ 2000000000 → P (w32 a0) h) ∧ (2000000000 < a0 → P 2000000000 h))) ∧ (a0 < 0 → P 0 h))) : Pt (n + 1) X zM276 0 [some (.long x0), none] [] h (qI P) := by
  refine pt_1 (fun n d => r_lloadn gx276_0 rfl) ?_
  refine pt_d (pt_lconst (c := 0) gx276_1 rfl (fun v1 h1 => ?_))
  refine pt_d (pt_lcmp_ge gx276_2 gx276_3 z0 h1 (fun e2 => ?_) (fun e2 => ?_))
  · have H := H.1 e2
    refine pt_d (pt_1 (fun n d => r_lloadn gx276_10 rfl) ?_)
    refine pt_d (pt_ldc2_w (c := 2000000000) gx276_11 rfl (fun v3 h3 => ?_))
    refine pt_d (pt_lcmp_le gx276_14 gx276_15 z0 h3 (fun e4 => ?_) (fun e4 => ?_))
    · have H := H.1 e4
      refine pt_d (pt_1 (fun n d => r_lloadn gx276_24 rfl) ?_)
      refine pt_d (pt_l2i gx276_25 z0 (fun v5 h5 => ?_))
      exact pt_d (pt_iret gx276_26 ⟨_, rfl, by rw [h5]; exact H⟩)
    · have H := H.2 e4
      refine pt_d (pt_ldc_w (c := 2000000000) gx276_18 rfl (fun v6 h6 => ?_))
      refine pt_d (pt_1 (fun n d => r_goto gx276_21) ?_)
      exact pt_d (pt_iret gx276_26 ⟨_, rfl, by rw [h6]; exact H⟩)
  · have H := H.2 e2
    refine pt_d (pt_iconst gx276_6 (fun v7 h7 => ?_))
    refine pt_d (pt_1 (fun n d => r_goto gx276_7) ?_)
    exact pt_d (pt_iret gx276_26 ⟨_, rfl, by rw [h7]; exact H⟩)
theorem c_276 {n : Nat} {X : aX} {h : aH} {x0 : Int64} {a0 : Int} (S : wS h) (z0 : x0.toInt = a0) : Pt n X zM276 0 [some (.long x0), none] [] h (qI (fun y h' => h' = h ∧ y = hel a0)) := by
  have b := hel_b a0
  refine pt_d (d276_0 S z0 ⟨fun e1 => ⟨fun e2 => ⟨rfl, ?_⟩, fun e2 => ⟨rfl, ?_⟩⟩, fun e => ⟨rfl, ?_⟩⟩)
  · rw [w32_id (by omega) (by omega)]
    unfold hel
    omega
  · unfold hel
    omega
  · unfold hel
    omega

theorem d275_0 {n : Nat} {X : aX} {h : aH} {P : Int → aH → Prop} {x1 x2 x3 x4 : Int32} {a1 a2 a3 a4 : Int} (S : wS h) (z1 : x1.toInt = a1) (z2 : x2.toInt = a2) (z3 : x3.toInt = a3) (z4 : x4.toInt = a4) (H : (∀ (w5 : Int32), w5.toInt = 0 → Pt n X zM275 3 [some (.ref 72), some (.int x1), some (.int x2), some (.int x3), some (.int x4), some (.int w5), none, none, none, none] [] h (qJ P))) : Pt (n + 1) X zM275 0 [some (.ref 72), some (.int x1), some (.int x2), some (.int x3), some (.int x4), none, none, none, none, none] [] h (qJ P) := by
  refine pt_iconst gx275_0 (fun v1 h1 => ?_)
  refine pt_d (pt_1 (fun n d => r_istore (L' := [some (.ref 72), some (.int x1), some (.int x2), some (.int x3), some (.int x4), some (.int v1), none, none, none, none]) gx275_1 rfl rfl) ?_)
  exact H v1 h1
theorem d275_3 {n : Nat} {X : aX} {h : aH} {P : Int → aH → Prop} {x1 x2 x3 x4 x5 : Int32} {a1 a2 a3 a4 a5 : Int} (S : wS h) (z1 : x1.toInt = a1) (z2 : x2.toInt = a2) (z3 : x3.toInt = a3) (z4 : x4.toInt = a4) (z5 : x5.toInt = a5) (H : ((vw h 72 2 ≤ a5 → (∀ (w5 : Int64) (u8_ : Option Value) (u9_ : Option Value), w5.toInt = 0 → Pt n X zM275 71 [some (.ref 72), some (.int x1), some (.int x2), some (.int x3), some (.int x4), some (.long w5), none, some (.int x4), u8_, u9_] [] h (qJ P))) ∧ (a5 < vw h 72 2 → (0 ≤ a5 → a5 < 150 → ((vw h 73 a5 ≠ 6 → ∀ h_10 : aH, wS h_10 → vw h_10 = up (vw h) 127 a5 (bAnd 1 1) → (∀ (w5 : Int32), w5.toInt = w32 (a5 + 1) → Pt n X zM275 3 [some (.ref 72), some (.int x1), some (.int x2), some (.int x3), some (.int x4), some (.int w5), none, none, none, none] [] h_10 (qJ P))) ∧ (vw h 73 a5 = 6 → (vw h 72 14 ≤ 200 ∧ ((mHold (vw h) a5 (w32 ((w32 ((w32 (365 * a2)) + 365)) - 1)) a3 = a1 → ∀ h_21 : aH, wS h_21 → vw h_21 = up (vw h) 127 a5 (bAnd 0 1) → (∀ (w5 : Int32), w5.toInt = w32 (a5 + 1) → Pt n X zM275 3 [some (.ref 72), some (.int x1), some (.int x2), some (.int x3), some (.int x4), some (.int w5), none, none, none, none] [] h_21 (qJ P))) ∧ (mHold (vw h) a5 (w32 ((w32 ((w32 (365 * a2)) + 365)) - 1)) a3 ≠ a1 → ∀ h_24 : aH, wS h_24 → vw h_24 = up (vw h) 127 a5 (bAnd 1 1) → (∀ (w5 : Int32), w5.toInt = w32 (a5 + 1) → Pt n X zM275 3 [some (.ref 72), some (.int x1), some (.int x2), some (.int x3), some (.int x4), some (.int w5), none, none, none, none] [] h_24 (qJ P))))))))))) : Pt (n + 1) X zM275 3 [some (.ref 72), some (.int x1), some (.int x2), some (.int x3), some (.int x4), some (.int x5), none, none, none, none] [] h (qJ P) := by
  refine pt_1 (fun n d => r_iload gx275_3 rfl) ?_
  refine pt_d (pt_1 (fun n d => r_aloadn gx275_5 rfl) ?_)
  refine pt_d (pt_getI (B := 2) gx275_6 S (fun v1 h1 => ?_))
  refine pt_d (pt_icmp_ge gx275_9 z5 h1 (fun e2 => ?_) (fun e2 => ?_))
  · have H := H.1 e2
    refine pt_d (pt_lconst (c := 0) gx275_64 rfl (fun v3 h3 => ?_))
    refine pt_d (pt_1 (fun n d => r_lstore (L' := [some (.ref 72), some (.int x1), some (.int x2), some (.int x3), some (.int x4), some (.long v3), none, none, none, none]) gx275_65 rfl rfl) ?_)
    refine pt_d (pt_1 (fun n d => r_iload gx275_67 rfl) ?_)
    refine pt_d (pt_1 (fun n d => r_istore (L' := [some (.ref 72), some (.int x1), some (.int x2), some (.int x3), some (.int x4), some (.long v3), none, some (.int x4), none, none]) gx275_69 rfl rfl) ?_)
    exact H v3 _ _ h3
  · have H := H.2 e2
    refine pt_d (pt_1 (fun n d => r_aloadn gx275_12 rfl) ?_)
    refine pt_d (pt_getR gx275_13 S tr_72_73 ?_)
    refine pt_d (pt_1 (fun n d => r_iload gx275_16 rfl) ?_)
    refine pt_d (pt_1 (fun n d => r_aloadn gx275_18 rfl) ?_)
    refine pt_d (pt_getR gx275_19 S tr_72_3 ?_)
    refine pt_d (pt_1 (fun n d => r_iload gx275_22 rfl) ?_)
    refine pt_d (pt_iald (N' := 150) gx275_24 S tl_73 z5 (fun v6 p6 q6 h6 => ?_))
    have H := H p6 q6
    refine pt_d (pt_bipush gx275_25 (fun v7 h7 => ?_))
    refine pt_d (pt_icmp_ne gx275_27 h6 h7 (fun e8 => ?_) (fun e8 => ?_))
    · have H := H.1 e8
      refine pt_d (pt_iconst gx275_52 (fun v9 h9 => ?_))
      refine pt_d (pt_1 (fun n d => r_goto gx275_53) ?_)
      refine pt_d (pt_zast (N' := 150) gx275_57 S tl_127 z5 h9 (fun h_10 S10 p10 q10 e10 => ?_))
      refine pt_d (pt_iinc (c := 1) gx275_58 rfl z5 (fun v11 h11 => ?_))
      show Pt _ _ _ _ [some (.ref 72), some (.int x1), some (.int x2), some (.int x3), some (.int x4), some (.int v11), none, none, none, none] [] _ _
      refine pt_d (pt_1 (fun n d => r_goto gx275_61) ?_)
      have H := H h_10 S10 (by rw [e10])
      exact H v11 h11
    · have H := H.2 e8
      refine pt_d (pt_1 (fun n d => r_aloadn gx275_30 rfl) ?_)
      refine pt_d (pt_1 (fun n d => r_iload gx275_31 rfl) ?_)
      refine pt_d (pt_sipush gx275_33 (fun v12 h12 => ?_))
      refine pt_d (pt_1 (fun n d => r_iloadn gx275_36 rfl) ?_)
      refine pt_d (pt_imul gx275_37 h12 z2 (fun v13 h13 => ?_))
      refine pt_d (pt_sipush gx275_38 (fun v14 h14 => ?_))
      refine pt_d (pt_iadd gx275_41 h13 h14 (fun v15 h15 => ?_))
      refine pt_d (pt_iconst gx275_42 (fun v16 h16 => ?_))
      refine pt_d (pt_isub gx275_43 h15 h16 (fun v17 h17 => ?_))
      refine pt_d (pt_1 (fun n d => r_iloadn gx275_44 rfl) ?_)
      obtain ⟨pr18, H⟩ := H
      refine pt_d (pt_virt (as := [.int x5, .int v17, .int x3]) (r := [.int x5, .ref 127]) gx275_45 rfl (show zmt[226]? = some zM226 from rfl) rfl rfl rfl rfl (c_226 S z5 h17 z3 pr18) (kqP (fun v18 h18 => ?_)))
      show Pt _ _ _ 48 _ [.int v18, .int x5, .ref 127] _ _
      refine pt_d (pt_1 (fun n d => r_iloadn gx275_48 rfl) ?_)
      refine pt_d (pt_icmp_eq gx275_49 h18 z1 (fun e19 => ?_) (fun e19 => ?_))
      · have H := H.1 e19
        refine pt_d (pt_iconst gx275_56 (fun v20 h20 => ?_))
        refine pt_d (pt_zast (N' := 150) gx275_57 S tl_127 z5 h20 (fun h_21 S21 p21 q21 e21 => ?_))
        refine pt_d (pt_iinc (c := 1) gx275_58 rfl z5 (fun v22 h22 => ?_))
        show Pt _ _ _ _ [some (.ref 72), some (.int x1), some (.int x2), some (.int x3), some (.int x4), some (.int v22), none, none, none, none] [] _ _
        refine pt_d (pt_1 (fun n d => r_goto gx275_61) ?_)
        have H := H h_21 S21 (by rw [e21])
        exact H v22 h22
      · have H := H.2 e19
        refine pt_d (pt_iconst gx275_52 (fun v23 h23 => ?_))
        refine pt_d (pt_1 (fun n d => r_goto gx275_53) ?_)
        refine pt_d (pt_zast (N' := 150) gx275_57 S tl_127 z5 h23 (fun h_24 S24 p24 q24 e24 => ?_))
        refine pt_d (pt_iinc (c := 1) gx275_58 rfl z5 (fun v25 h25 => ?_))
        show Pt _ _ _ _ [some (.ref 72), some (.int x1), some (.int x2), some (.int x3), some (.int x4), some (.int v25), none, none, none, none] [] _ _
        refine pt_d (pt_1 (fun n d => r_goto gx275_61) ?_)
        have H := H h_24 S24 (by rw [e24])
        exact H v25 h25
theorem d275_71 {n : Nat} {X : aX} {h : aH} {P : Int → aH → Prop} {x1 x2 x3 x4 x7 : Int32} {x5 : Int64} {a1 a2 a3 a4 a7 a5 : Int} {u8 u9 : Option Value} (S : wS h) (z1 : x1.toInt = a1) (z2 : x2.toInt = a2) (z3 : x3.toInt = a3) (z4 : x4.toInt = a4) (z5 : x5.toInt = a5) (z7 : x7.toInt = a7) (H : ((a7 ≤ 0 → P a5 h) ∧ (0 < a7 → (∀ (w8 : Int32) (w9 : Int32), w8.toInt = (-1) → w9.toInt = 0 → Pt n X zM275 82 [some (.ref 72), some (.int x1), some (.int x2), some (.int x3), some (.int x4), some (.long x5), none, some (.int x7), some (.int w8), some (.int w9)] [] h (qJ P))))) : Pt (n + 1) X zM275 71 [some (.ref 72), some (.int x1), some (.int x2), some (.int x3), some (.int x4), some (.long x5), none, some (.int x7), u8, u9] [] h (qJ P) := by
  refine pt_1 (fun n d => r_iload gx275_71 rfl) ?_
  refine pt_d (pt_if_le gx275_73 z7 (fun e1 => ?_) (fun e1 => ?_))
  · have H := H.1 e1
    refine pt_d (pt_1 (fun n d => r_lload gx275_169 rfl) ?_)
    exact pt_d (pt_lret gx275_171 ⟨_, rfl, by rw [z5]; exact H⟩)
  · have H := H.2 e1
    refine pt_d (pt_iconst gx275_76 (fun v2 h2 => ?_))
    refine pt_d (pt_1 (fun n d => r_istore (L' := [some (.ref 72), some (.int x1), some (.int x2), some (.int x3), some (.int x4), some (.long x5), none, some (.int x7), some (.int v2), u9]) gx275_77 rfl rfl) ?_)
    refine pt_d (pt_iconst gx275_79 (fun v3 h3 => ?_))
    refine pt_d (pt_1 (fun n d => r_istore (L' := [some (.ref 72), some (.int x1), some (.int x2), some (.int x3), some (.int x4), some (.long x5), none, some (.int x7), some (.int v2), some (.int v3)]) gx275_80 rfl rfl) ?_)
    exact H v2 v3 h2 h3
theorem d275_82 {n : Nat} {X : aX} {h : aH} {P : Int → aH → Prop} {x1 x2 x3 x4 x7 x8 x9 : Int32} {x5 : Int64} {a1 a2 a3 a4 a7 a8 a9 a5 : Int} (S : wS h) (z1 : x1.toInt = a1) (z2 : x2.toInt = a2) (z3 : x3.toInt = a3) (z4 : x4.toInt = a4) (z5 : x5.toInt = a5) (z7 : x7.toInt = a7) (z8 : x8.toInt = a8) (z9 : x9.toInt = a9) (H : ((vw h 72 2 ≤ a9 → (0 ≤ a8 → a8 < 150 → ∀ h_5 : aH, wS h_5 → vw h_5 = up (vw h) 127 a8 (bAnd 1 1) → (∀ (w5 : Int64) (w7 : Int32) (u8_ : Option Value) (u9_ : Option Value), w5.toInt = w64 (a5 + (w64 ((vw h 79 a8) * (min 10 a7)))) → w7.toInt = w32 (a7 + (-10)) → Pt n X zM275 71 [some (.ref 72), some (.int x1), some (.int x2), some (.int x3), some (.int x4), some (.long w5), none, some (.int w7), u8_, u9_] [] h_5 (qJ P)))) ∧ (a9 < vw h 72 2 → (0 ≤ a9 → a9 < 150 → ((vw h 127 a9 ≠ 0 → (∀ (w9 : Int32), w9.toInt = w32 (a9 + 1) → Pt n X zM275 82 [some (.ref 72), some (.int x1), some (.int x2), some (.int x3), some (.int x4), some (.long x5), none, some (.int x7), some (.int x8), some (.int w9)] [] h (qJ P))) ∧ (vw h 127 a9 = 0 → ((a8 < 0 → (∀ (w9 : Int32), w9.toInt = w32 (a9 + 1) → Pt n X zM275 82 [some (.ref 72), some (.int x1), some (.int x2), some (.int x3), some (.int x4), some (.long x5), none, some (.int x7), some (.int x9), some (.int w9)] [] h (qJ P))) ∧ (0 ≤ a8 → (0 ≤ a8 → a8 < 150 → ((vw h 79 a9 ≤ vw h 79 a8 → (∀ (w9 : Int32), w9.toInt = w32 (a9 + 1) → Pt n X zM275 82 [some (.ref 72), some (.int x1), some (.int x2), some (.int x3), some (.int x4), some (.long x5), none, some (.int x7), some (.int x8), some (.int w9)] [] h (qJ P))) ∧ (vw h 79 a8 < vw h 79 a9 → (∀ (w9 : Int32), w9.toInt = w32 (a9 + 1) → Pt n X zM275 82 [some (.ref 72), some (.int x1), some (.int x2), some (.int x3), some (.int x4), some (.long x5), none, some (.int x7), some (.int x9), some (.int w9)] [] h (qJ P))))))))))))) : Pt (n + 1) X zM275 82 [some (.ref 72), some (.int x1), some (.int x2), some (.int x3), some (.int x4), some (.long x5), none, some (.int x7), some (.int x8), some (.int x9)] [] h (qJ P) := by
  refine pt_1 (fun n d => r_iload gx275_82 rfl) ?_
  refine pt_d (pt_1 (fun n d => r_aloadn gx275_84 rfl) ?_)
  refine pt_d (pt_getI (B := 2) gx275_85 S (fun v1 h1 => ?_))
  refine pt_d (pt_icmp_ge gx275_88 z9 h1 (fun e2 => ?_) (fun e2 => ?_))
  · have H := H.1 e2
    refine pt_d (pt_1 (fun n d => r_aloadn gx275_133 rfl) ?_)
    refine pt_d (pt_getR gx275_134 S tr_72_73 ?_)
    refine pt_d (pt_1 (fun n d => r_iload gx275_137 rfl) ?_)
    refine pt_d (pt_iconst gx275_139 (fun v4 h4 => ?_))
    refine pt_d (pt_zast (N' := 150) gx275_140 S tl_127 z8 h4 (fun h_5 S5 p5 q5 e5 => ?_))
    have H := H p5 q5
    refine pt_d (pt_1 (fun n d => r_lload gx275_141 rfl) ?_)
    refine pt_d (pt_1 (fun n d => r_aloadn gx275_143 rfl) ?_)
    refine pt_d (pt_getR gx275_144 S5 tr_72_9 ?_)
    refine pt_d (pt_1 (fun n d => r_iload gx275_147 rfl) ?_)
    refine pt_d (pt_iald (N' := 150) gx275_149 S5 tl_79 z8 (fun v7 p7 q7 h7 => ?_))
    have h7 : v7.toInt = vw h 79 a8 := by rw [h7, e5, up_c (by decide)]
    refine pt_d (pt_i2l gx275_150 h7 (fun v8 h8 => ?_))
    refine pt_d (pt_bipush gx275_151 (fun v9 h9 => ?_))
    refine pt_d (pt_1 (fun n d => r_iload gx275_153 rfl) ?_)
    refine pt_d (pt_stat (as := [.int v9, .int x7]) (r := [.long v8, .long x5]) gx275_155 rfl (show zmt[211]? = some zM211 from rfl) rfl rfl rfl rfl (c_211 S5 h9 z7) (kqP (fun v10 h10 => ?_)))
    show Pt _ _ _ 158 _ [.int v10, .long v8, .long x5] _ _
    refine pt_d (pt_i2l gx275_158 h10 (fun v11 h11 => ?_))
    refine pt_d (pt_lmul gx275_159 h8 h11 (fun v12 h12 => ?_))
    refine pt_d (pt_ladd gx275_160 z5 h12 (fun v13 h13 => ?_))
    refine pt_d (pt_1 (fun n d => r_lstore (L' := [some (.ref 72), some (.int x1), some (.int x2), some (.int x3), some (.int x4), some (.long v13), none, some (.int x7), some (.int x8), some (.int x9)]) gx275_161 rfl rfl) ?_)
    refine pt_d (pt_iinc (c := (-10)) gx275_163 rfl z7 (fun v14 h14 => ?_))
    show Pt _ _ _ _ [some (.ref 72), some (.int x1), some (.int x2), some (.int x3), some (.int x4), some (.long v13), none, some (.int v14), some (.int x8), some (.int x9)] [] _ _
    refine pt_d (pt_1 (fun n d => r_goto gx275_166) ?_)
    have H := H h_5 S5 (by rw [e5])
    exact H v13 v14 _ _ h13 h14
  · have H := H.2 e2
    refine pt_d (pt_1 (fun n d => r_aloadn gx275_91 rfl) ?_)
    refine pt_d (pt_getR gx275_92 S tr_72_73 ?_)
    refine pt_d (pt_1 (fun n d => r_iload gx275_95 rfl) ?_)
    refine pt_d (pt_zald (N' := 150) gx275_97 S tl_127 z9 (fun v16 p16 q16 h16 => ?_))
    have H := H p16 q16
    refine pt_d (pt_if_ne gx275_98 h16 (fun e17 => ?_) (fun e17 => ?_))
    · have H := H.1 e17
      refine pt_d (pt_iinc (c := 1) gx275_127 rfl z9 (fun v18 h18 => ?_))
      show Pt _ _ _ _ [some (.ref 72), some (.int x1), some (.int x2), some (.int x3), some (.int x4), some (.long x5), none, some (.int x7), some (.int x8), some (.int v18)] [] _ _
      refine pt_d (pt_1 (fun n d => r_goto gx275_130) ?_)
      exact H v18 h18
    · have H := H.2 e17
      refine pt_d (pt_1 (fun n d => r_iload gx275_101 rfl) ?_)
      refine pt_d (pt_if_lt gx275_103 z8 (fun e19 => ?_) (fun e19 => ?_))
      · have H := H.1 e19
        refine pt_d (pt_1 (fun n d => r_iload gx275_123 rfl) ?_)
        refine pt_d (pt_1 (fun n d => r_istore (L' := [some (.ref 72), some (.int x1), some (.int x2), some (.int x3), some (.int x4), some (.long x5), none, some (.int x7), some (.int x9), some (.int x9)]) gx275_125 rfl rfl) ?_)
        refine pt_d (pt_iinc (c := 1) gx275_127 rfl z9 (fun v20 h20 => ?_))
        show Pt _ _ _ _ [some (.ref 72), some (.int x1), some (.int x2), some (.int x3), some (.int x4), some (.long x5), none, some (.int x7), some (.int x9), some (.int v20)] [] _ _
        refine pt_d (pt_1 (fun n d => r_goto gx275_130) ?_)
        exact H v20 h20
      · have H := H.2 e19
        refine pt_d (pt_1 (fun n d => r_aloadn gx275_106 rfl) ?_)
        refine pt_d (pt_getR gx275_107 S tr_72_9 ?_)
        refine pt_d (pt_1 (fun n d => r_iload gx275_110 rfl) ?_)
        refine pt_d (pt_iald (N' := 150) gx275_112 S tl_79 z9 (fun v22 p22 q22 h22 => ?_))
        refine pt_d (pt_1 (fun n d => r_aloadn gx275_113 rfl) ?_)
        refine pt_d (pt_getR gx275_114 S tr_72_9 ?_)
        refine pt_d (pt_1 (fun n d => r_iload gx275_117 rfl) ?_)
        refine pt_d (pt_iald (N' := 150) gx275_119 S tl_79 z8 (fun v24 p24 q24 h24 => ?_))
        have H := H p24 q24
        refine pt_d (pt_icmp_le gx275_120 h22 h24 (fun e25 => ?_) (fun e25 => ?_))
        · have H := H.1 e25
          refine pt_d (pt_iinc (c := 1) gx275_127 rfl z9 (fun v26 h26 => ?_))
          show Pt _ _ _ _ [some (.ref 72), some (.int x1), some (.int x2), some (.int x3), some (.int x4), some (.long x5), none, some (.int x7), some (.int x8), some (.int v26)] [] _ _
          refine pt_d (pt_1 (fun n d => r_goto gx275_130) ?_)
          exact H v26 h26
        · have H := H.2 e25
          refine pt_d (pt_1 (fun n d => r_iload gx275_123 rfl) ?_)
          refine pt_d (pt_1 (fun n d => r_istore (L' := [some (.ref 72), some (.int x1), some (.int x2), some (.int x3), some (.int x4), some (.long x5), none, some (.int x7), some (.int x9), some (.int x9)]) gx275_125 rfl rfl) ?_)
          refine pt_d (pt_iinc (c := 1) gx275_127 rfl z9 (fun v27 h27 => ?_))
          show Pt _ _ _ _ [some (.ref 72), some (.int x1), some (.int x2), some (.int x3), some (.int x4), some (.long x5), none, some (.int x7), some (.int x9), some (.int v27)] [] _ _
          refine pt_d (pt_1 (fun n d => r_goto gx275_130) ?_)
          exact H v27 h27
def p275 (V : vS) : Prop := JPer V ∧ (V 72 2 = V 1 1 ∧ 0 ≤ V 1 1 ∧ V 1 1 ≤ 150) ∧ (∀ j, V 73 j = V 2 j) ∧ (∀ b, 0 ≤ b → b < V 1 1 → V 2 b = 6 → V 79 b = V 3 b) ∧ V 72 14 ≤ 200 ∧ V 1 4 ≤ 150
-- unspent from a place of the list on
def uns (V W : vS) (H : Int → Prop) (i : Int) : Prop := ∀ b, 0 ≤ b → b < V 1 1 → (W 127 b = 0 ↔ ∃ i', (i ≤ i' ∧ i' < V 1 4) ∧ V 6 i' = b ∧ H i')
def beats (V : vS) (x b : Int) : Prop := V 79 b < V 79 x ∨ (V 79 b = V 79 x ∧ x ≤ b)
theorem vlF_s {V : vS} {H : Int → Prop} {L : Int} : ∀ (n : Nat) (i i1 : Int), 0 ≤ i → i ≤ i1 → (i1 - i).toNat = n → i1 ≤ V 1 4 → (∀ i', i ≤ i' → i' < i1 → ¬ H i') → vlF V H (V 1 4 - i).toNat i L = vlF V H (V 1 4 - i1).toNat i1 L
  | 0, i, i1, _, h, e, _, _ => by
    have : i = i1 := by omega
    rw [this]
  | n + 1, i, i1, h0, h, e, h2, k => by
    have := vlF_s (V := V) (H := H) (L := L) n (i + 1) i1 (by omega) (by omega) (by omega) h2 (fun i' a b => k i' (by omega) b)
    rw [show (V 1 4 - i).toNat = (V 1 4 - (i + 1)).toNat + 1 by omega, vlF_f (fun z => k i (Int.le_refl _) (by omega) z.2)]
    exact this
theorem pick {V W : vS} {H : Int → Prop} {i x : Int} (J : JPer V) (pv : ∀ b, 0 ≤ b → b < V 1 1 → V 2 b = 6 → V 79 b = V 3 b) (i0 : 0 ≤ i) (U : uns V W H i) (x0 : 0 ≤ x ∧ x < V 1 1) (xu : W 127 x = 0) (xb : ∀ b, 0 ≤ b → b < V 1 1 → W 127 b = 0 → beats V x b) : ∃ i1, (i ≤ i1 ∧ i1 < V 1 4) ∧ V 6 i1 = x ∧ H i1 ∧ (∀ i', i ≤ i' → i' < i1 → ¬ H i') ∧ V 79 x = V 3 x ∧ ∀ W', W' = up W 127 x 1 → uns V W' H (i1 + 1) := by
  obtain ⟨j0, j1, j2, j3⟩ := J
  obtain ⟨i1, hi, e1, h1⟩ := (U x x0.1 x0.2).mp xu
  have v79 : ∀ i', 0 ≤ i' → i' < V 1 4 → V 79 (V 6 i') = V 3 (V 6 i') := fun i' a b => by
    obtain ⟨r, z⟩ := j1 i' a b
    exact pv _ r.1 r.2 z
  have inj : ∀ i i', 0 ≤ i → i < V 1 4 → 0 ≤ i' → i' < V 1 4 → V 6 i = V 6 i' → i = i' := fun i i' a b a' b' e => by
    rcases Int.lt_trichotomy i i' with z | z | z
    · have := j2 i i' a z b'
      rw [e] at this
      omega
    · exact z
    · have := j2 i' i a' z b
      rw [e] at this
      omega
  refine ⟨i1, hi, e1, h1, fun i' a b hh => ?_, by rw [← e1]; exact v79 i1 (by omega) hi.2, fun W' eW b b0 b1 => ?_⟩
  · have r := (j1 i' (by omega) (by omega)).1
    have k := xb (V 6 i') r.1 r.2 ((U _ r.1 r.2).mpr ⟨i', ⟨a, by omega⟩, rfl, hh⟩)
    have s := j2 i' i1 (by omega) b hi.2
    unfold beats at k
    rw [← e1, v79 i' (by omega) (by omega), v79 i1 (by omega) hi.2] at k
    omega
  · rw [eW, up_p]
    constructor
    · intro z
      by_cases y : b = x
      · rw [if_pos y] at z
        cases z
      · rw [if_neg y] at z
        obtain ⟨i', h', e', hh⟩ := (U b b0 b1).mp z
        refine ⟨i', ⟨?_, h'.2⟩, e', hh⟩
        by_cases w : i' < i1
        · exfalso
          have r := (j1 i' (by omega) (by omega)).1
          have k := xb (V 6 i') r.1 r.2 ((U _ r.1 r.2).mpr ⟨i', h', rfl, hh⟩)
          have s := j2 i' i1 (by omega) w hi.2
          unfold beats at k
          rw [← e1, v79 i' (by omega) (by omega), v79 i1 (by omega) hi.2] at k
          omega
        · have : i' ≠ i1 := fun w2 => y (by rw [← e', w2, e1])
          omega
    · rintro ⟨i', h', e', hh⟩
      have y : b ≠ x := fun w => by
        have := inj i' i1 (by omega) h'.2 (by omega) hi.2 (by rw [e', e1, w])
        omega
      rw [if_neg y]
      exact (U b b0 b1).mpr ⟨i', ⟨by omega, h'.2⟩, e', hh⟩
theorem bb11 : bAnd 1 1 = 1 := by decide
theorem bb01 : bAnd 0 1 = 0 := by decide
section V275
variable {X : aX} {V : vS} {f y t : Int}
-- the two loops
theorem m_275 (hp : p275 V) {H : Int → Prop} : ∀ n : Nat, (∀ (h : aH) (x1 x2 x3 x4 : Int32) (x5 : Int64) (x7 : Int32) (u8 u9 : Option Value) (i : Int), wS h → (∀ (c : Nat) j, c ≠ 127 → vw h c j = V c j) → 0 ≤ i → i ≤ V 1 4 → uns V (vw h) H i → Pt n X zM275 71 [some (.ref 72), some (.int x1), some (.int x2), some (.int x3), some (.int x4), some (.long x5), none, some (.int x7), u8, u9] [] h (qJ (fun r h' => wS h' ∧ r = w64 (x5.toInt + vlF V H (V 1 4 - i).toNat i x7.toInt) ∧ ∀ (c : Nat) j, c ≠ 127 → vw h' c j = V c j))) ∧ (∀ (h : aH) (x1 x2 x3 x4 : Int32) (x5 : Int64) (x7 x8 x9 : Int32) (i k : Int), wS h → (∀ (c : Nat) j, c ≠ 127 → vw h c j = V c j) → 0 ≤ i → i ≤ V 1 4 → uns V (vw h) H i → 0 < x7.toInt → x9.toInt = k → 0 ≤ k → k ≤ V 1 1 → ((x8.toInt = -1 ∧ ∀ b, 0 ≤ b → b < k → vw h 127 b ≠ 0) ∨ ((0 ≤ x8.toInt ∧ x8.toInt < k) ∧ vw h 127 x8.toInt = 0 ∧ ∀ b, 0 ≤ b → b < k → vw h 127 b = 0 → beats V x8.toInt b)) → Pt n X zM275 82 [some (.ref 72), some (.int x1), some (.int x2), some (.int x3), some (.int x4), some (.long x5), none, some (.int x7), some (.int x8), some (.int x9)] [] h (qJ (fun r h' => wS h' ∧ r = w64 (x5.toInt + vlF V H (V 1 4 - i).toNat i x7.toInt) ∧ ∀ (c : Nat) j, c ≠ 127 → vw h' c j = V c j))) := by
  obtain ⟨J, ⟨n2, b0, b1⟩, k73, v79, n14, n4⟩ := hp
  intro n
  induction n with
  | zero => exact ⟨fun _ _ _ _ _ _ _ _ _ _ _ _ _ _ _ => pt_z, fun _ _ _ _ _ _ _ _ _ _ _ _ _ _ _ _ _ _ _ _ _ => pt_z⟩
  | succ n ih =>
    obtain ⟨ih1, ih2⟩ := ih
    refine ⟨fun h x1 x2 x3 x4 x5 x7 u8 u9 i S F i0 i1 U => ?_, fun h x1 x2 x3 x4 x5 x7 x8 x9 i k S F i0 i1 U l0 h9 k0 k1 B => ?_⟩
    · refine d275_71 S rfl rfl rfl rfl rfl rfl ⟨fun le => ⟨S, ?_, F⟩, fun gt w8 w9 g8 g9 => ?_⟩
      · rw [vlF_0 _ _ _ le, Int.add_zero, w64_j]
      · exact ih2 h x1 x2 x3 x4 x5 x7 w8 w9 i 0 S F i0 i1 U gt g9 (Int.le_refl _) b0 (Or.inl ⟨g8, fun b u v => by omega⟩)
    · have e2 : vw h 72 2 = V 1 1 := (F 72 2 (by decide)).trans n2
      refine d275_82 S rfl rfl rfl rfl rfl rfl rfl h9 ⟨fun ge p0 p1 g S2 eg w5 w7 u8 u9 g5 g7 => ?_, fun lt _ _ => ?_⟩
      · -- the best is taken
        have kn : k = V 1 1 := by omega
        rw [kn] at B
        rcases B with ⟨e, -⟩ | ⟨c1, c2, c3⟩
        · omega
        · rw [bb11] at eg
          obtain ⟨j1, hi, e1, h1, no, v7, un⟩ := pick J v79 i0 U c1 c2 c3
          have F2 : ∀ (c : Nat) j, c ≠ 127 → vw g c j = V c j := fun c j z => by rw [eg, up_c z]; exact F c j z
          have r7 := iR x7
          rw [w32_id (by omega) (by omega)] at g7
          refine pt_q (ih1 g x1 x2 x3 x4 w5 w7 u8 u9 (j1 + 1) S2 F2 (by omega) (by omega) (un _ eg)) ?_
          rintro v h' ⟨x, ex, q1, q2, q3⟩
          refine ⟨x, ex, q1, ?_, q3⟩
          rw [vlF_s (H := H) _ i j1 i0 hi.1 rfl (by omega) no, show (V 1 4 - j1).toNat = (V 1 4 - (j1 + 1)).toNat + 1 by omega, vlF_t ⟨l0, h1⟩, q2, g5, F 79 _ (by decide), v7, e1, Int.mul_comm (V 3 x8.toInt), Int.min_comm 10, w64_3]
          have el : vlF V H (V 1 4 - (j1 + 1)).toNat (j1 + 1) w7.toInt = vlF V H (V 1 4 - (j1 + 1)).toNat (j1 + 1) (x7.toInt - min x7.toInt 10) := by
            by_cases z : 10 ≤ x7.toInt
            · rw [show w7.toInt = x7.toInt - min x7.toInt 10 by omega]
            · rw [vlF_0 _ _ _ (show w7.toInt ≤ 0 by omega), vlF_0 _ _ _ (show x7.toInt - min x7.toInt 10 ≤ 0 by omega)]
          rw [el]
      · have step : ∀ (w8 w9 : Int32), w9.toInt = w32 (k + 1) → ((w8.toInt = -1 ∧ ∀ b, 0 ≤ b → b < k + 1 → vw h 127 b ≠ 0) ∨ ((0 ≤ w8.toInt ∧ w8.toInt < k + 1) ∧ vw h 127 w8.toInt = 0 ∧ ∀ b, 0 ≤ b → b < k + 1 → vw h 127 b = 0 → beats V w8.toInt b)) → Pt n X zM275 82 [some (.ref 72), some (.int x1), some (.int x2), some (.int x3), some (.int x4), some (.long x5), none, some (.int x7), some (.int w8), some (.int w9)] [] h (qJ (fun r h' => wS h' ∧ r = w64 (x5.toInt + vlF V H (V 1 4 - i).toNat i x7.toInt) ∧ ∀ (c : Nat) j, c ≠ 127 → vw h' c j = V c j)) := by
          intro w8 w9 g9 B'
          replace g9 := w_1 g9 (by omega) (by omega)
          exact ih2 h x1 x2 x3 x4 x5 x7 w8 w9 i (k + 1) S F i0 i1 U l0 g9 (by omega) (by omega) B'
        refine ⟨fun n0 w9 g9 => step x8 w9 g9 ?_, fun e0 => ⟨fun m8 w9 g9 => step x9 w9 g9 ?_, fun m8 _ _ => ⟨fun le w9 g9 => step x8 w9 g9 ?_, fun gt w9 g9 => step x9 w9 g9 ?_⟩⟩⟩
        · rcases B with ⟨e, c⟩ | ⟨c1, c2, c3⟩
          · refine Or.inl ⟨e, fun b u v => ?_⟩
            by_cases z : b = k
            · rw [z]; exact n0
            · exact c b u (by omega)
          · refine Or.inr ⟨by omega, c2, fun b u v w => ?_⟩
            by_cases z : b = k
            · rw [z] at w; exact absurd w n0
            · exact c3 b u (by omega) w
        · rcases B with ⟨e, c⟩ | ⟨c1, -⟩
          · refine Or.inr ⟨by omega, by rw [h9]; exact e0, fun b u v w => ?_⟩
            by_cases z : b = k
            · exact Or.inr ⟨by rw [z, h9], by omega⟩
            · exact absurd w (c b u (by omega))
          · omega
        · rcases B with ⟨e, c⟩ | ⟨c1, c2, c3⟩
          · omega
          · refine Or.inr ⟨by omega, c2, fun b u v w => ?_⟩
            by_cases z : b = k
            · rw [F 79 _ (by decide), F 79 _ (by decide)] at le
              rw [z]
              unfold beats
              omega
            · exact c3 b u (by omega) w
        · rcases B with ⟨e, c⟩ | ⟨c1, c2, c3⟩
          · omega
          · refine Or.inr ⟨by omega, by rw [h9]; exact e0, fun b u v w => ?_⟩
            rw [F 79 _ (by decide), F 79 _ (by decide)] at gt
            rw [h9]
            by_cases z : b = k
            · exact Or.inr ⟨by rw [z], by omega⟩
            · have := c3 b u (by omega) w
              unfold beats at *
              omega
theorem m_275f (hp : p275 V) {q : Int} : ∀ (n : Nat) (h : aH) (x1 x2 x3 x4 x5 : Int32) (k : Int), wS h → x1.toInt = f → x2.toInt = y → x3.toInt = t → x4.toInt = q → x5.toInt = k → 0 ≤ k → k ≤ V 1 1 → (∀ (c : Nat) j, c ≠ 127 → vw h c j = V c j) → (∀ b, 0 ≤ b → b < k → (vw h 127 b = 0 ↔ (V 73 b = 6 ∧ mHold V b (ldM y) t = f))) → Pt n X zM275 3 [some (.ref 72), some (.int x1), some (.int x2), some (.int x3), some (.int x4), some (.int x5), none, none, none, none] [] h (qJ (fun r h' => wS h' ∧ r = w64 (vlF V (fun i => mHold V (V 6 i) (ldM y) t = f) (V 1 4).toNat 0 q) ∧ ∀ (c : Nat) j, c ≠ 127 → vw h' c j = V c j)) := by
  have hp' := hp
  obtain ⟨J, ⟨n2, b0, b1⟩, k73, v79, n14, n4⟩ := hp
  intro n
  induction n with
  | zero => exact fun _ _ _ _ _ _ _ _ _ _ _ _ _ _ _ _ _ => pt_z
  | succ n ih =>
    intro h x1 x2 x3 x4 x5 k S h1 h2 h3 h4 h5 k0 k1 F U
    have e2 : vw h 72 2 = V 1 1 := (F 72 2 (by decide)).trans n2
    have hd : ∀ b d k', mHold (vw h) b d k' = mHold V b d k' := fun b d k' => mHold_f (fun c j u v => F c j (by omega)) (F 72 14 (by decide)) b d k'
    have step : ∀ (g : aH) (w5 : Int32) (v : Int), wS g → vw g = up (vw h) 127 k v → w5.toInt = w32 (k + 1) → (k < V 1 1) → (v = 0 ↔ (V 73 k = 6 ∧ mHold V k (ldM y) t = f)) → Pt n X zM275 3 [some (.ref 72), some (.int x1), some (.int x2), some (.int x3), some (.int x4), some (.int w5), none, none, none, none] [] g (qJ (fun r h' => wS h' ∧ r = w64 (vlF V (fun i => mHold V (V 6 i) (ldM y) t = f) (V 1 4).toNat 0 q) ∧ ∀ (c : Nat) j, c ≠ 127 → vw h' c j = V c j)) := by
      intro g w5 v S2 eg g5 lt ev
      replace g5 := w_1 g5 (by omega) (by omega)
      refine ih g x1 x2 x3 x4 w5 (k + 1) S2 h1 h2 h3 h4 g5 (by omega) (by omega) (fun c j z => by rw [eg, up_c z]; exact F c j z) (fun b u w => ?_)
      rw [eg, up_p]
      by_cases z : b = k
      · rw [if_pos z, z]
        exact ev
      · rw [if_neg z]
        exact U b u (by omega)
    refine d275_3 S h1 h2 h3 h4 h5 ⟨fun ge w5 u8 u9 g5 => ?_, fun lt _ _ => ⟨fun n6 g S2 eg w5 g5 => step g w5 1 S2 (by rw [eg, bb11]) g5 (by omega) ?_, fun e6 => ⟨by rw [F 72 14 (by decide)]; exact n14, fun eh g S2 eg w5 g5 => step g w5 0 S2 (by rw [eg, bb01]) g5 (by omega) ?_, fun nh g S2 eg w5 g5 => step g w5 1 S2 (by rw [eg, bb11]) g5 (by omega) ?_⟩⟩⟩
    · have kn : k = V 1 1 := by omega
      rw [kn] at U
      refine pt_q ((m_275 hp' (H := fun i => mHold V (V 6 i) (ldM y) t = f) n).1 h x1 x2 x3 x4 w5 x4 u8 u9 0 S F (Int.le_refl _) J.1 (fun b c d => ?_)) ?_
      · rw [U b c d]
        constructor
        · rintro ⟨z1, z2⟩
          obtain ⟨i, hi, e⟩ := J.2.2.2 b c d (by rw [← k73]; exact z1)
          exact ⟨i, hi, e, show mHold V (V 6 i) (ldM y) t = f by rw [e]; exact z2⟩
        · rintro ⟨i, hi, e, z2⟩
          have := (J.2.1 i hi.1 hi.2).2
          exact ⟨by rw [k73, ← e]; exact this, by rw [← e]; exact z2⟩
      · rintro v h' ⟨x, ex, p1, p2, p3⟩
        refine ⟨x, ex, p1, ?_, p3⟩
        rw [p2, g5, h4, Int.zero_add, Int.sub_zero]
    · rw [F 73 _ (by decide)] at n6
      exact ⟨fun z => (by cases z), fun z => absurd z.1 n6⟩
    · rw [F 73 _ (by decide)] at e6
      rw [hd] at eh
      exact ⟨fun _ => ⟨e6, eh⟩, fun _ => rfl⟩
    · rw [hd] at nh
      exact ⟨fun z => (by cases z), fun z => absurd z.2 nh⟩
end V275
def R275 (V : vS) (f y t q r : Int) (W : vS) : Prop := r = w64 (vlF V (fun i => mHold V (V 6 i) (ldM y) t = f) (V 1 4).toNat 0 q) ∧ ∀ (c : Nat) j, c ≠ 127 → W c j = V c j
theorem c_275 {n : Nat} {X : aX} {h : aH} {x1 x2 x3 x4 : Int32} {a1 a2 a3 a4 : Int} (S : wS h) (z1 : x1.toInt = a1) (z2 : x2.toInt = a2) (z3 : x3.toInt = a3) (z4 : x4.toInt = a4) (hp : p275 (vw h)) : Pt n X zM275 0 [some (.ref 72), some (.int x1), some (.int x2), some (.int x3), some (.int x4), none, none, none, none, none] [] h (qJ (fun r h' => wS h' ∧ R275 (vw h) a1 a2 a3 a4 r (vw h'))) := by
  have b := hp.2.1
  exact pt_d (d275_0 S z1 z2 z3 z4 (fun w5 g5 => m_275f hp n h x1 x2 x3 x4 w5 0 S z1 z2 z3 z4 g5 (Int.le_refl _) (by omega) (fun _ _ _ => rfl) (fun b u v => by omega)))
end

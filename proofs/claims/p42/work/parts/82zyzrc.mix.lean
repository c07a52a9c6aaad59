-- ===== 82zyzrc.mix: 6 texts =====
section
-- ===== mix: the class =====
theorem e49_0 {n : Nat} {X : aX} {h : aH} {P : aH → Prop} {x1 x3 x4 x5 : Int32} {a1 a3 a4 a5 : Int} {q2 : Nat} (S : wS h) (z1 : x1.toInt = a1) (z3 : x3.toInt = a3) (z4 : x4.toInt = a4) (z5 : x5.toInt = a5) (H : ((w32 ((w32 (a5 + (vw h 55 1))) - a1) < vw h 55 10 → P h) ∧ (vw h 55 10 ≤ w32 ((w32 (a5 + (vw h 55 1))) - a1) → ∀ (y6 : Int) (h_6 : aH), (wS h_6 ∧ (h_6 = h ∧ Q51 (vw h) a3 a4 y6)) → ((vw h_6 55 11 < y6 → ((vw h_6 55 1 ≤ a1 → ((0 : Int) ≤ 0 → (0 : Int) ≤ 0 → (0 : Int) ≤ vw h_6 55 1 → ∀ h_17 : aH, wS h_17 → vw h_17 = cpy (up (vw h_6) 55 11 a4) 62 0 58 0 (vw h_6 55 1) → P h_17)) ∧ (a1 < vw h_6 55 1 → ((a1 < 6 → (0 ≤ a1 → a1 < 6 → (∀ (w6 : Int32) (w7 : Int32) (u8_ : Option Value) (u9_ : Option Value), w6.toInt = vw h_6 56 a1 → w7.toInt = 0 → Pt n X zM49 80 [some (.ref 55), some (.int x1), some (.ref q2), some (.int x3), some (.int x4), some (.int x5), some (.int w6), some (.int w7), u8_, u9_] [] h_6 (qN P)))) ∧ (6 ≤ a1 → ((0 : Int) ≤ 0 → (0 : Int) ≤ 0 → (0 : Int) ≤ vw h_6 55 1 → ∀ h_29 : aH, wS h_29 → vw h_29 = cpy (up (vw h_6) 55 11 a4) 62 0 58 0 (vw h_6 55 1) → P h_29)))))) ∧ (y6 ≤ vw h_6 55 11 → P h_6))))) : Pt (n + 1) X zM49 0 [some (.ref 55), some (.int x1), some (.ref q2), some (.int x3), some (.int x4), some (.int x5), none, none, none, none] [] h (qN P) := by
  refine pt_1 (fun n d => r_iload gx49_0 rfl) ?_
  refine pt_d (pt_1 (fun n d => r_aloadn gx49_2 rfl) ?_)
  refine pt_d (pt_getI (B := 1) gx49_3 S (fun v1 h1 => ?_))
  refine pt_d (pt_iadd gx49_6 z5 h1 (fun v2 h2 => ?_))
  refine pt_d (pt_1 (fun n d => r_iloadn gx49_7 rfl) ?_)
  refine pt_d (pt_isub gx49_8 h2 z1 (fun v3 h3 => ?_))
  refine pt_d (pt_1 (fun n d => r_aloadn gx49_9 rfl) ?_)
  refine pt_d (pt_getI (B := 10) gx49_10 S (fun v4 h4 => ?_))
  refine pt_d (pt_icmp_lt gx49_13 h3 h4 (fun e5 => ?_) (fun e5 => ?_))
  · have H := H.1 e5
    exact pt_d (pt_vret gx49_30 ⟨rfl, H⟩)
  · have H := H.2 e5
    refine pt_d (pt_1 (fun n d => r_aloadn gx49_16 rfl) ?_)
    refine pt_d (pt_1 (fun n d => r_iloadn gx49_17 rfl) ?_)
    refine pt_d (pt_1 (fun n d => r_iload gx49_18 rfl) ?_)
    refine pt_d (pt_virt (as := [.int x3, .int x4]) (r := []) gx49_20 rfl (show zmt[51]? = some zM51 from rfl) rfl rfl rfl rfl (c_51k S z3 z4) (kqI (fun v6 y6 h_6 h6 P6 => ?_)))
    have S6 := P6.1
    have H := H y6 h_6 P6
    show Pt _ _ _ 23 _ [.int v6] _ _
    refine pt_d (pt_1 (fun n d => r_aloadn gx49_23 rfl) ?_)
    refine pt_d (pt_getI (B := 11) gx49_24 S6 (fun v7 h7 => ?_))
    refine pt_d (pt_icmp_gt gx49_27 h6 h7 (fun e8 => ?_) (fun e8 => ?_))
    · have H := H.1 e8
      refine pt_d (pt_1 (fun n d => r_iloadn gx49_31 rfl) ?_)
      refine pt_d (pt_1 (fun n d => r_aloadn gx49_32 rfl) ?_)
      refine pt_d (pt_getI (B := 1) gx49_33 S6 (fun v9 h9 => ?_))
      refine pt_d (pt_icmp_ge gx49_36 z1 h9 (fun e10 => ?_) (fun e10 => ?_))
      · have H := H.1 e10
        refine pt_d (pt_1 (fun n d => r_aloadn gx49_45 rfl) ?_)
        refine pt_d (pt_1 (fun n d => r_iload gx49_46 rfl) ?_)
        refine pt_d (pt_putI (B := 11) gx49_48 S6 z4 (fun h_11 S11 e11 => ?_))
        refine pt_d (pt_1 (fun n d => r_aloadn gx49_51 rfl) ?_)
        refine pt_d (pt_getR gx49_52 S11 tr_55_8 ?_)
        refine pt_d (pt_iconst gx49_55 (fun v13 h13 => ?_))
        refine pt_d (pt_1 (fun n d => r_aloadn gx49_56 rfl) ?_)
        refine pt_d (pt_getR gx49_57 S11 tr_55_3 ?_)
        refine pt_d (pt_iconst gx49_60 (fun v15 h15 => ?_))
        refine pt_d (pt_1 (fun n d => r_aloadn gx49_61 rfl) ?_)
        refine pt_d (pt_getI (B := 1) gx49_62 S11 (fun v16 h16 => ?_))
        have h16 : v16.toInt = vw h_6 55 1 := by rw [h16, e11, up_j (by decide)]
        refine pt_d (pt_copy gx49_65 rfl S11 h13 h15 h16 (fun h_17 S17 p17 q17 r17 e17 => ?_))
        have H := H p17 q17 r17
        have H := H h_17 S17 (by rw [e17, e11])
        exact pt_d (pt_vret gx49_68 ⟨rfl, H⟩)
      · have H := H.2 e10
        refine pt_d (pt_1 (fun n d => r_iloadn gx49_39 rfl) ?_)
        refine pt_d (pt_bipush gx49_40 (fun v18 h18 => ?_))
        refine pt_d (pt_icmp_lt gx49_42 z1 h18 (fun e19 => ?_) (fun e19 => ?_))
        · have H := H.1 e19
          refine pt_d (pt_1 (fun n d => r_aloadn gx49_69 rfl) ?_)
          refine pt_d (pt_getR gx49_70 S6 tr_55_0 ?_)
          refine pt_d (pt_1 (fun n d => r_iloadn gx49_73 rfl) ?_)
          refine pt_d (pt_iald (N' := 6) gx49_74 S6 tl_56 z1 (fun v21 p21 q21 h21 => ?_))
          have H := H p21 q21
          refine pt_d (pt_1 (fun n d => r_istore (L' := [some (.ref 55), some (.int x1), some (.ref q2), some (.int x3), some (.int x4), some (.int x5), some (.int v21), none, none, none]) gx49_75 rfl rfl) ?_)
          refine pt_d (pt_iconst gx49_77 (fun v22 h22 => ?_))
          refine pt_d (pt_1 (fun n d => r_istore (L' := [some (.ref 55), some (.int x1), some (.ref q2), some (.int x3), some (.int x4), some (.int x5), some (.int v21), some (.int v22), none, none]) gx49_78 rfl rfl) ?_)
          exact H v21 v22 _ _ h21 h22
        · have H := H.2 e19
          refine pt_d (pt_1 (fun n d => r_aloadn gx49_45 rfl) ?_)
          refine pt_d (pt_1 (fun n d => r_iload gx49_46 rfl) ?_)
          refine pt_d (pt_putI (B := 11) gx49_48 S6 z4 (fun h_23 S23 e23 => ?_))
          refine pt_d (pt_1 (fun n d => r_aloadn gx49_51 rfl) ?_)
          refine pt_d (pt_getR gx49_52 S23 tr_55_8 ?_)
          refine pt_d (pt_iconst gx49_55 (fun v25 h25 => ?_))
          refine pt_d (pt_1 (fun n d => r_aloadn gx49_56 rfl) ?_)
          refine pt_d (pt_getR gx49_57 S23 tr_55_3 ?_)
          refine pt_d (pt_iconst gx49_60 (fun v27 h27 => ?_))
          refine pt_d (pt_1 (fun n d => r_aloadn gx49_61 rfl) ?_)
          refine pt_d (pt_getI (B := 1) gx49_62 S23 (fun v28 h28 => ?_))
          have h28 : v28.toInt = vw h_6 55 1 := by rw [h28, e23, up_j (by decide)]
          refine pt_d (pt_copy gx49_65 rfl S23 h25 h27 h28 (fun h_29 S29 p29 q29 r29 e29 => ?_))
          have H := H p29 q29 r29
          have H := H h_29 S29 (by rw [e29, e23])
          exact pt_d (pt_vret gx49_68 ⟨rfl, H⟩)
    · have H := H.2 e8
      exact pt_d (pt_vret gx49_30 ⟨rfl, H⟩)
theorem e49_80 {n : Nat} {X : aX} {h : aH} {P : aH → Prop} {x1 x3 x4 x5 x6 x7 : Int32} {a1 a3 a4 a5 a6 a7 : Int} {u8 u9 : Option Value} {q2 : Nat} (S : wS h) (z1 : x1.toInt = a1) (z3 : x3.toInt = a3) (z4 : x4.toInt = a4) (z5 : x5.toInt = a5) (z6 : x6.toInt = a6) (z7 : x7.toInt = a7) (K49 : ∀ {h : aH} {x1 x3 x4 x5 : Int32} {q2 : Nat} {a1 a3 a4 a5 : Int}, wS h → x1.toInt = a1 → x3.toInt = a3 → x4.toInt = a4 → x5.toInt = a5 → Pt n X zM49 0 [some (.ref 55), some (.int x1), some (.ref q2), some (.int x3), some (.int x4), some (.int x5), none, none, none, none] [] h (qN (fun h' => wS h' ∧ G49 (vw h) a1 q2 a3 a4 a5 (vw h')))) (H : ((8 ≤ a7 → P h) ∧ (a7 < 8 → (0 ≤ a7 → (0 ≤ vw h q2 a7 → vw h q2 a7 < 8 → ((vw h 55 9 < w32 ((vw h 61 (vw h q2 a7)) + a6) → (∀ (w7 : Int32) (u8_ : Option Value) (u9_ : Option Value), w7.toInt = w32 (a7 + 1) → Pt n X zM49 80 [some (.ref 55), some (.int x1), some (.ref q2), some (.int x3), some (.int x4), some (.int x5), some (.int x6), some (.int w7), u8_, u9_] [] h (qN P))) ∧ (w32 ((vw h 61 (vw h q2 a7)) + a6) ≤ vw h 55 9 → ((0 < vw h 61 (vw h q2 a7) → ((vw h 61 (vw h q2 a7) ≠ 0 → (0 ≤ a1 → a1 < 6 → ∀ h_22 : aH, wS h_22 → vw h_22 = up (up (vw h) 61 (vw h q2 a7) (w32 ((vw h 61 (vw h q2 a7)) + a6))) 62 a1 (vw h q2 a7) → ∀ (h_31 : aH), (wS h_31 ∧ G49 (vw h_22) (w32 (a1 + 1)) q2 (w32 (a3 - a6)) (w32 (a4 + (w32 (a6 * (vw h 57 (vw h q2 a7)))))) (w32 (a5 + 0)) (vw h_31)) → ∀ h_35 : aH, wS h_35 → vw h_35 = up (vw h_31) 61 (vw h q2 a7) (w32 ((vw h_31 61 (vw h q2 a7)) - a6)) → (∀ (w7 : Int32) (u8_ : Option Value) (u9_ : Option Value), w7.toInt = w32 (a7 + 1) → Pt n X zM49 80 [some (.ref 55), some (.int x1), some (.ref q2), some (.int x3), some (.int x4), some (.int x5), some (.int x6), some (.int w7), u8_, u9_] [] h_35 (qN P)))) ∧ (vw h 61 (vw h q2 a7) = 0 → (0 ≤ a1 → a1 < 6 → ∀ h_43 : aH, wS h_43 → vw h_43 = up (up (vw h) 61 (vw h q2 a7) (w32 ((vw h 61 (vw h q2 a7)) + a6))) 62 a1 (vw h q2 a7) → ∀ (h_52 : aH), (wS h_52 ∧ G49 (vw h_43) (w32 (a1 + 1)) q2 (w32 (a3 - a6)) (w32 (a4 + (w32 (a6 * (vw h 57 (vw h q2 a7)))))) (w32 (a5 + 1)) (vw h_52)) → ∀ h_56 : aH, wS h_56 → vw h_56 = up (vw h_52) 61 (vw h q2 a7) (w32 ((vw h_52 61 (vw h q2 a7)) - a6)) → (∀ (w7 : Int32) (u8_ : Option Value) (u9_ : Option Value), w7.toInt = w32 (a7 + 1) → Pt n X zM49 80 [some (.ref 55), some (.int x1), some (.ref q2), some (.int x3), some (.int x4), some (.int x5), some (.int x6), some (.int w7), u8_, u9_] [] h_56 (qN P)))))) ∧ (vw h 61 (vw h q2 a7) ≤ 0 → ∀ (y58 : Int) (h_58 : aH), (wS h_58 ∧ (h_58 = h ∧ Q50 (vw h) a7 q2 y58)) → ((y58 = 0 → (∀ (w7 : Int32) (u8_ : Option Value) (u9_ : Option Value), w7.toInt = w32 (a7 + 1) → Pt n X zM49 80 [some (.ref 55), some (.int x1), some (.ref q2), some (.int x3), some (.int x4), some (.int x5), some (.int x6), some (.int w7), u8_, u9_] [] h_58 (qN P))) ∧ (y58 ≠ 0 → ((vw h_58 61 (vw h q2 a7) ≠ 0 → (0 ≤ a1 → a1 < 6 → ∀ h_70 : aH, wS h_70 → vw h_70 = up (up (vw h_58) 61 (vw h q2 a7) (w32 ((vw h_58 61 (vw h q2 a7)) + a6))) 62 a1 (vw h q2 a7) → ∀ (h_79 : aH), (wS h_79 ∧ G49 (vw h_70) (w32 (a1 + 1)) q2 (w32 (a3 - a6)) (w32 (a4 + (w32 (a6 * (vw h_58 57 (vw h q2 a7)))))) (w32 (a5 + 0)) (vw h_79)) → ∀ h_83 : aH, wS h_83 → vw h_83 = up (vw h_79) 61 (vw h q2 a7) (w32 ((vw h_79 61 (vw h q2 a7)) - a6)) → (∀ (w7 : Int32) (u8_ : Option Value) (u9_ : Option Value), w7.toInt = w32 (a7 + 1) → Pt n X zM49 80 [some (.ref 55), some (.int x1), some (.ref q2), some (.int x3), some (.int x4), some (.int x5), some (.int x6), some (.int w7), u8_, u9_] [] h_83 (qN P)))) ∧ (vw h_58 61 (vw h q2 a7) = 0 → (0 ≤ a1 → a1 < 6 → ∀ h_91 : aH, wS h_91 → vw h_91 = up (up (vw h_58) 61 (vw h q2 a7) (w32 ((vw h_58 61 (vw h q2 a7)) + a6))) 62 a1 (vw h q2 a7) → ∀ (h_100 : aH), (wS h_100 ∧ G49 (vw h_91) (w32 (a1 + 1)) q2 (w32 (a3 - a6)) (w32 (a4 + (w32 (a6 * (vw h_58 57 (vw h q2 a7)))))) (w32 (a5 + 1)) (vw h_100)) → ∀ h_104 : aH, wS h_104 → vw h_104 = up (vw h_100) 61 (vw h q2 a7) (w32 ((vw h_100 61 (vw h q2 a7)) - a6)) → (∀ (w7 : Int32) (u8_ : Option Value) (u9_ : Option Value), w7.toInt = w32 (a7 + 1) → Pt n X zM49 80 [some (.ref 55), some (.int x1), some (.ref q2), some (.int x3), some (.int x4), some (.int x5), some (.int x6), some (.int w7), u8_, u9_] [] h_104 (qN P)))))))))))))))) : Pt (n + 1) X zM49 80 [some (.ref 55), some (.int x1), some (.ref q2), some (.int x3), some (.int x4), some (.int x5), some (.int x6), some (.int x7), u8, u9] [] h (qN P) := by
  refine pt_1 (fun n d => r_iload gx49_80 rfl) ?_
  refine pt_d (pt_bipush gx49_82 (fun v1 h1 => ?_))
  refine pt_d (pt_icmp_ge gx49_84 z7 h1 (fun e2 => ?_) (fun e2 => ?_))
  · have H := H.1 e2
    exact pt_d (pt_vret gx49_215 ⟨rfl, H⟩)
  · have H := H.2 e2
    refine pt_d (pt_1 (fun n d => r_aloadn gx49_87 rfl) ?_)
    refine pt_d (pt_1 (fun n d => r_iload gx49_88 rfl) ?_)
    refine pt_d (pt_ialdD gx49_90 z7 (fun v3 p3 h3 => ?_))
    have H := H p3
    refine pt_d (pt_1 (fun n d => r_istore (L' := [some (.ref 55), some (.int x1), some (.ref q2), some (.int x3), some (.int x4), some (.int x5), some (.int x6), some (.int x7), some (.int v3), u9]) gx49_91 rfl rfl) ?_)
    refine pt_d (pt_1 (fun n d => r_aloadn gx49_93 rfl) ?_)
    refine pt_d (pt_getR gx49_94 S tr_55_7 ?_)
    refine pt_d (pt_1 (fun n d => r_iload gx49_97 rfl) ?_)
    refine pt_d (pt_iald (N' := 8) gx49_99 S tl_61 h3 (fun v5 p5 q5 h5 => ?_))
    have H := H p5 q5
    refine pt_d (pt_1 (fun n d => r_iload gx49_100 rfl) ?_)
    refine pt_d (pt_iadd gx49_102 h5 z6 (fun v6 h6 => ?_))
    refine pt_d (pt_1 (fun n d => r_aloadn gx49_103 rfl) ?_)
    refine pt_d (pt_getI (B := 9) gx49_104 S (fun v7 h7 => ?_))
    refine pt_d (pt_icmp_gt gx49_107 h6 h7 (fun e8 => ?_) (fun e8 => ?_))
    · have H := H.1 e8
      refine pt_d (pt_iinc (c := 1) gx49_209 rfl z7 (fun v9 h9 => ?_))
      show Pt _ _ _ _ [some (.ref 55), some (.int x1), some (.ref q2), some (.int x3), some (.int x4), some (.int x5), some (.int x6), some (.int v9), some (.int v3), u9] [] _ _
      refine pt_d (pt_1 (fun n d => r_goto gx49_212) ?_)
      exact H v9 _ _ h9
    · have H := H.2 e8
      refine pt_d (pt_1 (fun n d => r_aloadn gx49_110 rfl) ?_)
      refine pt_d (pt_getR gx49_111 S tr_55_7 ?_)
      refine pt_d (pt_1 (fun n d => r_iload gx49_114 rfl) ?_)
      refine pt_d (pt_iald (N' := 8) gx49_116 S tl_61 h3 (fun v11 p11 q11 h11 => ?_))
      refine pt_d (pt_if_gt gx49_117 h11 (fun e12 => ?_) (fun e12 => ?_))
      · have H := H.1 e12
        refine pt_d (pt_1 (fun n d => r_aloadn gx49_130 rfl) ?_)
        refine pt_d (pt_getR gx49_131 S tr_55_7 ?_)
        refine pt_d (pt_1 (fun n d => r_iload gx49_134 rfl) ?_)
        refine pt_d (pt_iald (N' := 8) gx49_136 S tl_61 h3 (fun v14 p14 q14 h14 => ?_))
        refine pt_d (pt_if_ne gx49_137 h14 (fun e15 => ?_) (fun e15 => ?_))
        · have H := H.1 e15
          refine pt_d (pt_iconst gx49_144 (fun v16 h16 => ?_))
          refine pt_d (pt_1 (fun n d => r_istore (L' := [some (.ref 55), some (.int x1), some (.ref q2), some (.int x3), some (.int x4), some (.int x5), some (.int x6), some (.int x7), some (.int v3), some (.int v16)]) gx49_145 rfl rfl) ?_)
          refine pt_d (pt_1 (fun n d => r_aloadn gx49_147 rfl) ?_)
          refine pt_d (pt_getR gx49_148 S tr_55_7 ?_)
          refine pt_d (pt_1 (fun n d => r_iload gx49_151 rfl) ?_)
          refine pt_d (pt_1 (fun n d => r_dup2 gx49_153 rfl) ?_)
          refine pt_d (pt_iald (N' := 8) gx49_154 S tl_61 h3 (fun v18 p18 q18 h18 => ?_))
          refine pt_d (pt_1 (fun n d => r_iload gx49_155 rfl) ?_)
          refine pt_d (pt_iadd gx49_157 h18 z6 (fun v19 h19 => ?_))
          refine pt_d (pt_iast (N' := 8) gx49_158 S tl_61 h3 h19 (fun h_20 S20 p20 q20 e20 => ?_))
          refine pt_d (pt_1 (fun n d => r_aloadn gx49_159 rfl) ?_)
          refine pt_d (pt_getR gx49_160 S20 tr_55_8 ?_)
          refine pt_d (pt_1 (fun n d => r_iloadn gx49_163 rfl) ?_)
          refine pt_d (pt_1 (fun n d => r_iload gx49_164 rfl) ?_)
          refine pt_d (pt_iast (N' := 6) gx49_166 S20 tl_62 z1 h3 (fun h_22 S22 p22 q22 e22 => ?_))
          have H := H p22 q22
          refine pt_d (pt_1 (fun n d => r_aloadn gx49_167 rfl) ?_)
          refine pt_d (pt_1 (fun n d => r_iloadn gx49_168 rfl) ?_)
          refine pt_d (pt_iconst gx49_169 (fun v23 h23 => ?_))
          refine pt_d (pt_iadd gx49_170 z1 h23 (fun v24 h24 => ?_))
          refine pt_d (pt_1 (fun n d => r_aloadn gx49_171 rfl) ?_)
          refine pt_d (pt_1 (fun n d => r_iloadn gx49_172 rfl) ?_)
          refine pt_d (pt_1 (fun n d => r_iload gx49_173 rfl) ?_)
          refine pt_d (pt_isub gx49_175 z3 z6 (fun v25 h25 => ?_))
          refine pt_d (pt_1 (fun n d => r_iload gx49_176 rfl) ?_)
          refine pt_d (pt_1 (fun n d => r_iload gx49_178 rfl) ?_)
          refine pt_d (pt_1 (fun n d => r_aloadn gx49_180 rfl) ?_)
          refine pt_d (pt_getR gx49_181 S22 tr_55_2 ?_)
          refine pt_d (pt_1 (fun n d => r_iload gx49_184 rfl) ?_)
          refine pt_d (pt_iald (N' := 8) gx49_186 S22 tl_57 h3 (fun v27 p27 q27 h27 => ?_))
          have h27 : v27.toInt = vw h 57 (vw h q2 a7) := by rw [h27, e22, up_c (by decide), e20, up_c (by decide)]
          refine pt_d (pt_imul gx49_187 z6 h27 (fun v28 h28 => ?_))
          refine pt_d (pt_iadd gx49_188 z4 h28 (fun v29 h29 => ?_))
          refine pt_d (pt_1 (fun n d => r_iload gx49_189 rfl) ?_)
          refine pt_d (pt_1 (fun n d => r_iload gx49_191 rfl) ?_)
          refine pt_d (pt_iadd gx49_193 z5 h16 (fun v30 h30 => ?_))
          have H := H h_22 S22 (by rw [e22, e20])
          refine pt_d (pt_virt (as := [.int v24, .ref q2, .int v25, .int v29, .int v30]) (r := []) gx49_194 rfl (show zmt[49]? = some zM49 from rfl) rfl rfl rfl rfl (K49 S22 h24 h25 h29 h30) (kqN (fun h_31 P31 => ?_)))
          have S31 := P31.1
          have H := H h_31 P31
          show Pt _ _ _ 197 _ [] _ _
          refine pt_d (pt_1 (fun n d => r_aloadn gx49_197 rfl) ?_)
          refine pt_d (pt_getR gx49_198 S31 tr_55_7 ?_)
          refine pt_d (pt_1 (fun n d => r_iload gx49_201 rfl) ?_)
          refine pt_d (pt_1 (fun n d => r_dup2 gx49_203 rfl) ?_)
          refine pt_d (pt_iald (N' := 8) gx49_204 S31 tl_61 h3 (fun v33 p33 q33 h33 => ?_))
          refine pt_d (pt_1 (fun n d => r_iload gx49_205 rfl) ?_)
          refine pt_d (pt_isub gx49_207 h33 z6 (fun v34 h34 => ?_))
          refine pt_d (pt_iast (N' := 8) gx49_208 S31 tl_61 h3 h34 (fun h_35 S35 p35 q35 e35 => ?_))
          refine pt_d (pt_iinc (c := 1) gx49_209 rfl z7 (fun v36 h36 => ?_))
          show Pt _ _ _ _ [some (.ref 55), some (.int x1), some (.ref q2), some (.int x3), some (.int x4), some (.int x5), some (.int x6), some (.int v36), some (.int v3), some (.int v16)] [] _ _
          refine pt_d (pt_1 (fun n d => r_goto gx49_212) ?_)
          have H := H h_35 S35 (by rw [e35])
          exact H v36 _ _ h36
        · have H := H.2 e15
          refine pt_d (pt_iconst gx49_140 (fun v37 h37 => ?_))
          refine pt_d (pt_1 (fun n d => r_goto gx49_141) ?_)
          refine pt_d (pt_1 (fun n d => r_istore (L' := [some (.ref 55), some (.int x1), some (.ref q2), some (.int x3), some (.int x4), some (.int x5), some (.int x6), some (.int x7), some (.int v3), some (.int v37)]) gx49_145 rfl rfl) ?_)
          refine pt_d (pt_1 (fun n d => r_aloadn gx49_147 rfl) ?_)
          refine pt_d (pt_getR gx49_148 S tr_55_7 ?_)
          refine pt_d (pt_1 (fun n d => r_iload gx49_151 rfl) ?_)
          refine pt_d (pt_1 (fun n d => r_dup2 gx49_153 rfl) ?_)
          refine pt_d (pt_iald (N' := 8) gx49_154 S tl_61 h3 (fun v39 p39 q39 h39 => ?_))
          refine pt_d (pt_1 (fun n d => r_iload gx49_155 rfl) ?_)
          refine pt_d (pt_iadd gx49_157 h39 z6 (fun v40 h40 => ?_))
          refine pt_d (pt_iast (N' := 8) gx49_158 S tl_61 h3 h40 (fun h_41 S41 p41 q41 e41 => ?_))
          refine pt_d (pt_1 (fun n d => r_aloadn gx49_159 rfl) ?_)
          refine pt_d (pt_getR gx49_160 S41 tr_55_8 ?_)
          refine pt_d (pt_1 (fun n d => r_iloadn gx49_163 rfl) ?_)
          refine pt_d (pt_1 (fun n d => r_iload gx49_164 rfl) ?_)
          refine pt_d (pt_iast (N' := 6) gx49_166 S41 tl_62 z1 h3 (fun h_43 S43 p43 q43 e43 => ?_))
          have H := H p43 q43
          refine pt_d (pt_1 (fun n d => r_aloadn gx49_167 rfl) ?_)
          refine pt_d (pt_1 (fun n d => r_iloadn gx49_168 rfl) ?_)
          refine pt_d (pt_iconst gx49_169 (fun v44 h44 => ?_))
          refine pt_d (pt_iadd gx49_170 z1 h44 (fun v45 h45 => ?_))
          refine pt_d (pt_1 (fun n d => r_aloadn gx49_171 rfl) ?_)
          refine pt_d (pt_1 (fun n d => r_iloadn gx49_172 rfl) ?_)
          refine pt_d (pt_1 (fun n d => r_iload gx49_173 rfl) ?_)
          refine pt_d (pt_isub gx49_175 z3 z6 (fun v46 h46 => ?_))
          refine pt_d (pt_1 (fun n d => r_iload gx49_176 rfl) ?_)
          refine pt_d (pt_1 (fun n d => r_iload gx49_178 rfl) ?_)
          refine pt_d (pt_1 (fun n d => r_aloadn gx49_180 rfl) ?_)
          refine pt_d (pt_getR gx49_181 S43 tr_55_2 ?_)
          refine pt_d (pt_1 (fun n d => r_iload gx49_184 rfl) ?_)
          refine pt_d (pt_iald (N' := 8) gx49_186 S43 tl_57 h3 (fun v48 p48 q48 h48 => ?_))
          have h48 : v48.toInt = vw h 57 (vw h q2 a7) := by rw [h48, e43, up_c (by decide), e41, up_c (by decide)]
          refine pt_d (pt_imul gx49_187 z6 h48 (fun v49 h49 => ?_))
          refine pt_d (pt_iadd gx49_188 z4 h49 (fun v50 h50 => ?_))
          refine pt_d (pt_1 (fun n d => r_iload gx49_189 rfl) ?_)
          refine pt_d (pt_1 (fun n d => r_iload gx49_191 rfl) ?_)
          refine pt_d (pt_iadd gx49_193 z5 h37 (fun v51 h51 => ?_))
          have H := H h_43 S43 (by rw [e43, e41])
          refine pt_d (pt_virt (as := [.int v45, .ref q2, .int v46, .int v50, .int v51]) (r := []) gx49_194 rfl (show zmt[49]? = some zM49 from rfl) rfl rfl rfl rfl (K49 S43 h45 h46 h50 h51) (kqN (fun h_52 P52 => ?_)))
          have S52 := P52.1
          have H := H h_52 P52
          show Pt _ _ _ 197 _ [] _ _
          refine pt_d (pt_1 (fun n d => r_aloadn gx49_197 rfl) ?_)
          refine pt_d (pt_getR gx49_198 S52 tr_55_7 ?_)
          refine pt_d (pt_1 (fun n d => r_iload gx49_201 rfl) ?_)
          refine pt_d (pt_1 (fun n d => r_dup2 gx49_203 rfl) ?_)
          refine pt_d (pt_iald (N' := 8) gx49_204 S52 tl_61 h3 (fun v54 p54 q54 h54 => ?_))
          refine pt_d (pt_1 (fun n d => r_iload gx49_205 rfl) ?_)
          refine pt_d (pt_isub gx49_207 h54 z6 (fun v55 h55 => ?_))
          refine pt_d (pt_iast (N' := 8) gx49_208 S52 tl_61 h3 h55 (fun h_56 S56 p56 q56 e56 => ?_))
          refine pt_d (pt_iinc (c := 1) gx49_209 rfl z7 (fun v57 h57 => ?_))
          show Pt _ _ _ _ [some (.ref 55), some (.int x1), some (.ref q2), some (.int x3), some (.int x4), some (.int x5), some (.int x6), some (.int v57), some (.int v3), some (.int v37)] [] _ _
          refine pt_d (pt_1 (fun n d => r_goto gx49_212) ?_)
          have H := H h_56 S56 (by rw [e56])
          exact H v57 _ _ h57
      · have H := H.2 e12
        refine pt_d (pt_1 (fun n d => r_aloadn gx49_120 rfl) ?_)
        refine pt_d (pt_1 (fun n d => r_iload gx49_121 rfl) ?_)
        refine pt_d (pt_1 (fun n d => r_aloadn gx49_123 rfl) ?_)
        refine pt_d (pt_virt (as := [.int x7, .ref q2]) (r := []) gx49_124 rfl (show zmt[50]? = some zM50 from rfl) rfl rfl rfl rfl (c_50k S z7) (kqI (fun v58 y58 h_58 h58 P58 => ?_)))
        have S58 := P58.1
        have H := H y58 h_58 P58
        show Pt _ _ _ 127 _ [.int v58] _ _
        refine pt_d (pt_if_eq gx49_127 h58 (fun e59 => ?_) (fun e59 => ?_))
        · have H := H.1 e59
          refine pt_d (pt_iinc (c := 1) gx49_209 rfl z7 (fun v60 h60 => ?_))
          show Pt _ _ _ _ [some (.ref 55), some (.int x1), some (.ref q2), some (.int x3), some (.int x4), some (.int x5), some (.int x6), some (.int v60), some (.int v3), u9] [] _ _
          refine pt_d (pt_1 (fun n d => r_goto gx49_212) ?_)
          exact H v60 _ _ h60
        · have H := H.2 e59
          refine pt_d (pt_1 (fun n d => r_aloadn gx49_130 rfl) ?_)
          refine pt_d (pt_getR gx49_131 S58 tr_55_7 ?_)
          refine pt_d (pt_1 (fun n d => r_iload gx49_134 rfl) ?_)
          refine pt_d (pt_iald (N' := 8) gx49_136 S58 tl_61 h3 (fun v62 p62 q62 h62 => ?_))
          refine pt_d (pt_if_ne gx49_137 h62 (fun e63 => ?_) (fun e63 => ?_))
          · have H := H.1 e63
            refine pt_d (pt_iconst gx49_144 (fun v64 h64 => ?_))
            refine pt_d (pt_1 (fun n d => r_istore (L' := [some (.ref 55), some (.int x1), some (.ref q2), some (.int x3), some (.int x4), some (.int x5), some (.int x6), some (.int x7), some (.int v3), some (.int v64)]) gx49_145 rfl rfl) ?_)
            refine pt_d (pt_1 (fun n d => r_aloadn gx49_147 rfl) ?_)
            refine pt_d (pt_getR gx49_148 S58 tr_55_7 ?_)
            refine pt_d (pt_1 (fun n d => r_iload gx49_151 rfl) ?_)
            refine pt_d (pt_1 (fun n d => r_dup2 gx49_153 rfl) ?_)
            refine pt_d (pt_iald (N' := 8) gx49_154 S58 tl_61 h3 (fun v66 p66 q66 h66 => ?_))
            refine pt_d (pt_1 (fun n d => r_iload gx49_155 rfl) ?_)
            refine pt_d (pt_iadd gx49_157 h66 z6 (fun v67 h67 => ?_))
            refine pt_d (pt_iast (N' := 8) gx49_158 S58 tl_61 h3 h67 (fun h_68 S68 p68 q68 e68 => ?_))
            refine pt_d (pt_1 (fun n d => r_aloadn gx49_159 rfl) ?_)
            refine pt_d (pt_getR gx49_160 S68 tr_55_8 ?_)
            refine pt_d (pt_1 (fun n d => r_iloadn gx49_163 rfl) ?_)
            refine pt_d (pt_1 (fun n d => r_iload gx49_164 rfl) ?_)
            refine pt_d (pt_iast (N' := 6) gx49_166 S68 tl_62 z1 h3 (fun h_70 S70 p70 q70 e70 => ?_))
            have H := H p70 q70
            refine pt_d (pt_1 (fun n d => r_aloadn gx49_167 rfl) ?_)
            refine pt_d (pt_1 (fun n d => r_iloadn gx49_168 rfl) ?_)
            refine pt_d (pt_iconst gx49_169 (fun v71 h71 => ?_))
            refine pt_d (pt_iadd gx49_170 z1 h71 (fun v72 h72 => ?_))
            refine pt_d (pt_1 (fun n d => r_aloadn gx49_171 rfl) ?_)
            refine pt_d (pt_1 (fun n d => r_iloadn gx49_172 rfl) ?_)
            refine pt_d (pt_1 (fun n d => r_iload gx49_173 rfl) ?_)
            refine pt_d (pt_isub gx49_175 z3 z6 (fun v73 h73 => ?_))
            refine pt_d (pt_1 (fun n d => r_iload gx49_176 rfl) ?_)
            refine pt_d (pt_1 (fun n d => r_iload gx49_178 rfl) ?_)
            refine pt_d (pt_1 (fun n d => r_aloadn gx49_180 rfl) ?_)
            refine pt_d (pt_getR gx49_181 S70 tr_55_2 ?_)
            refine pt_d (pt_1 (fun n d => r_iload gx49_184 rfl) ?_)
            refine pt_d (pt_iald (N' := 8) gx49_186 S70 tl_57 h3 (fun v75 p75 q75 h75 => ?_))
            have h75 : v75.toInt = vw h_58 57 (vw h q2 a7) := by rw [h75, e70, up_c (by decide), e68, up_c (by decide)]
            refine pt_d (pt_imul gx49_187 z6 h75 (fun v76 h76 => ?_))
            refine pt_d (pt_iadd gx49_188 z4 h76 (fun v77 h77 => ?_))
            refine pt_d (pt_1 (fun n d => r_iload gx49_189 rfl) ?_)
            refine pt_d (pt_1 (fun n d => r_iload gx49_191 rfl) ?_)
            refine pt_d (pt_iadd gx49_193 z5 h64 (fun v78 h78 => ?_))
            have H := H h_70 S70 (by rw [e70, e68])
            refine pt_d (pt_virt (as := [.int v72, .ref q2, .int v73, .int v77, .int v78]) (r := []) gx49_194 rfl (show zmt[49]? = some zM49 from rfl) rfl rfl rfl rfl (K49 S70 h72 h73 h77 h78) (kqN (fun h_79 P79 => ?_)))
            have S79 := P79.1
            have H := H h_79 P79
            show Pt _ _ _ 197 _ [] _ _
            refine pt_d (pt_1 (fun n d => r_aloadn gx49_197 rfl) ?_)
            refine pt_d (pt_getR gx49_198 S79 tr_55_7 ?_)
            refine pt_d (pt_1 (fun n d => r_iload gx49_201 rfl) ?_)
            refine pt_d (pt_1 (fun n d => r_dup2 gx49_203 rfl) ?_)
            refine pt_d (pt_iald (N' := 8) gx49_204 S79 tl_61 h3 (fun v81 p81 q81 h81 => ?_))
            refine pt_d (pt_1 (fun n d => r_iload gx49_205 rfl) ?_)
            refine pt_d (pt_isub gx49_207 h81 z6 (fun v82 h82 => ?_))
            refine pt_d (pt_iast (N' := 8) gx49_208 S79 tl_61 h3 h82 (fun h_83 S83 p83 q83 e83 => ?_))
            refine pt_d (pt_iinc (c := 1) gx49_209 rfl z7 (fun v84 h84 => ?_))
            show Pt _ _ _ _ [some (.ref 55), some (.int x1), some (.ref q2), some (.int x3), some (.int x4), some (.int x5), some (.int x6), some (.int v84), some (.int v3), some (.int v64)] [] _ _
            refine pt_d (pt_1 (fun n d => r_goto gx49_212) ?_)
            have H := H h_83 S83 (by rw [e83])
            exact H v84 _ _ h84
          · have H := H.2 e63
            refine pt_d (pt_iconst gx49_140 (fun v85 h85 => ?_))
            refine pt_d (pt_1 (fun n d => r_goto gx49_141) ?_)
            refine pt_d (pt_1 (fun n d => r_istore (L' := [some (.ref 55), some (.int x1), some (.ref q2), some (.int x3), some (.int x4), some (.int x5), some (.int x6), some (.int x7), some (.int v3), some (.int v85)]) gx49_145 rfl rfl) ?_)
            refine pt_d (pt_1 (fun n d => r_aloadn gx49_147 rfl) ?_)
            refine pt_d (pt_getR gx49_148 S58 tr_55_7 ?_)
            refine pt_d (pt_1 (fun n d => r_iload gx49_151 rfl) ?_)
            refine pt_d (pt_1 (fun n d => r_dup2 gx49_153 rfl) ?_)
            refine pt_d (pt_iald (N' := 8) gx49_154 S58 tl_61 h3 (fun v87 p87 q87 h87 => ?_))
            refine pt_d (pt_1 (fun n d => r_iload gx49_155 rfl) ?_)
            refine pt_d (pt_iadd gx49_157 h87 z6 (fun v88 h88 => ?_))
            refine pt_d (pt_iast (N' := 8) gx49_158 S58 tl_61 h3 h88 (fun h_89 S89 p89 q89 e89 => ?_))
            refine pt_d (pt_1 (fun n d => r_aloadn gx49_159 rfl) ?_)
            refine pt_d (pt_getR gx49_160 S89 tr_55_8 ?_)
            refine pt_d (pt_1 (fun n d => r_iloadn gx49_163 rfl) ?_)
            refine pt_d (pt_1 (fun n d => r_iload gx49_164 rfl) ?_)
            refine pt_d (pt_iast (N' := 6) gx49_166 S89 tl_62 z1 h3 (fun h_91 S91 p91 q91 e91 => ?_))
            have H := H p91 q91
            refine pt_d (pt_1 (fun n d => r_aloadn gx49_167 rfl) ?_)
            refine pt_d (pt_1 (fun n d => r_iloadn gx49_168 rfl) ?_)
            refine pt_d (pt_iconst gx49_169 (fun v92 h92 => ?_))
            refine pt_d (pt_iadd gx49_170 z1 h92 (fun v93 h93 => ?_))
            refine pt_d (pt_1 (fun n d => r_aloadn gx49_171 rfl) ?_)
            refine pt_d (pt_1 (fun n d => r_iloadn gx49_172 rfl) ?_)
            refine pt_d (pt_1 (fun n d => r_iload gx49_173 rfl) ?_)
            refine pt_d (pt_isub gx49_175 z3 z6 (fun v94 h94 => ?_))
            refine pt_d (pt_1 (fun n d => r_iload gx49_176 rfl) ?_)
            refine pt_d (pt_1 (fun n d => r_iload gx49_178 rfl) ?_)
            refine pt_d (pt_1 (fun n d => r_aloadn gx49_180 rfl) ?_)
            refine pt_d (pt_getR gx49_181 S91 tr_55_2 ?_)
            refine pt_d (pt_1 (fun n d => r_iload gx49_184 rfl) ?_)
            refine pt_d (pt_iald (N' := 8) gx49_186 S91 tl_57 h3 (fun v96 p96 q96 h96 => ?_))
            have h96 : v96.toInt = vw h_58 57 (vw h q2 a7) := by rw [h96, e91, up_c (by decide), e89, up_c (by decide)]
            refine pt_d (pt_imul gx49_187 z6 h96 (fun v97 h97 => ?_))
            refine pt_d (pt_iadd gx49_188 z4 h97 (fun v98 h98 => ?_))
            refine pt_d (pt_1 (fun n d => r_iload gx49_189 rfl) ?_)
            refine pt_d (pt_1 (fun n d => r_iload gx49_191 rfl) ?_)
            refine pt_d (pt_iadd gx49_193 z5 h85 (fun v99 h99 => ?_))
            have H := H h_91 S91 (by rw [e91, e89])
            refine pt_d (pt_virt (as := [.int v93, .ref q2, .int v94, .int v98, .int v99]) (r := []) gx49_194 rfl (show zmt[49]? = some zM49 from rfl) rfl rfl rfl rfl (K49 S91 h93 h94 h98 h99) (kqN (fun h_100 P100 => ?_)))
            have S100 := P100.1
            have H := H h_100 P100
            show Pt _ _ _ 197 _ [] _ _
            refine pt_d (pt_1 (fun n d => r_aloadn gx49_197 rfl) ?_)
            refine pt_d (pt_getR gx49_198 S100 tr_55_7 ?_)
            refine pt_d (pt_1 (fun n d => r_iload gx49_201 rfl) ?_)
            refine pt_d (pt_1 (fun n d => r_dup2 gx49_203 rfl) ?_)
            refine pt_d (pt_iald (N' := 8) gx49_204 S100 tl_61 h3 (fun v102 p102 q102 h102 => ?_))
            refine pt_d (pt_1 (fun n d => r_iload gx49_205 rfl) ?_)
            refine pt_d (pt_isub gx49_207 h102 z6 (fun v103 h103 => ?_))
            refine pt_d (pt_iast (N' := 8) gx49_208 S100 tl_61 h3 h103 (fun h_104 S104 p104 q104 e104 => ?_))
            refine pt_d (pt_iinc (c := 1) gx49_209 rfl z7 (fun v105 h105 => ?_))
            show Pt _ _ _ _ [some (.ref 55), some (.int x1), some (.ref q2), some (.int x3), some (.int x4), some (.int x5), some (.int x6), some (.int v105), some (.int v3), some (.int v85)] [] _ _
            refine pt_d (pt_1 (fun n d => r_goto gx49_212) ?_)
            have H := H h_104 S104 (by rw [e104])
            exact H v105 _ _ h105
abbrev E49 (n : Nat) (X : aX) : Prop := ∀ {h : aH} {x1 x3 x4 x5 : Int32} {q2 : Nat} {N k : Nat} {rk rk2 : Int → Int}, wS h → x1.toInt = (k : Int) → MC (vw h) N rk2 → pmQ (vw h q2) rk → (q2 = 59 ∨ q2 = 60) → NS (vw h) N k x3.toInt x4.toInt x5.toInt → Pt n X zM49 0 [some (.ref 55), some (.int x1), some (.ref q2), some (.int x3), some (.int x4), some (.int x5), none, none, none, none] [] h (qN (fun h' => wS h' ∧ R49 (vw h) N k rk (vw h')))
abbrev L49 (n : Nat) (X : aX) : Prop := ∀ {V0 : vS} {h : aH} {x1 x3 x4 x5 x6 x7 : Int32} {u8 u9 : Option Value} {q2 : Nat} {N k : Nat} {rk rk2 : Int → Int}, wS h → x1.toInt = (k : Int) → k < N → MC V0 N rk2 → pmQ (V0 q2) rk → (q2 = 59 ∨ q2 = 60) → NS V0 N k x3.toInt x4.toInt x5.toInt → x6.toInt = V0 56 (k : Int) → 0 ≤ x7.toInt → x7.toInt ≤ 8 → LPq V0 (vw h) N k rk x7.toInt → Pt n X zM49 80 [some (.ref 55), some (.int x1), some (.ref q2), some (.int x3), some (.int x4), some (.int x5), some (.int x6), some (.int x7), u8, u9] [] h (qN (fun h' => wS h' ∧ R49 V0 N k rk (vw h')))
theorem g_49 {n : Nat} {X : aX} (K : E49 n X) {h : aH} {x1 x3 x4 x5 : Int32} {q2 : Nat} {a1 a3 a4 a5 : Int} (S : wS h) (z1 : x1.toInt = a1) (z3 : x3.toInt = a3) (z4 : x4.toInt = a4) (z5 : x5.toInt = a5) : Pt n X zM49 0 [some (.ref 55), some (.int x1), some (.ref q2), some (.int x3), some (.int x4), some (.int x5), none, none, none, none] [] h (qN (fun h' => wS h' ∧ G49 (vw h) a1 q2 a3 a4 a5 (vw h'))) := by
  intro m hm d v h' e
  obtain ⟨ev, Sv, -⟩ := c_49 S z1 z3 z4 z5 m hm d v h' e
  refine ⟨ev, Sv, fun N k rk rk2 e1 M Pq hq N0 => ?_⟩
  subst z3 z4 z5
  exact (K S (z1.trans e1) M Pq hq N0 m hm d v h' e).2.2
theorem l_49k {X : aX} : ∀ n : Nat, E49 n X ∧ L49 n X := by
  intro n
  induction n with
  | zero => exact ⟨fun _ _ _ _ _ _ => pt_z, fun _ _ _ _ _ _ _ _ _ _ _ => pt_z⟩
  | succ n ih =>
    obtain ⟨ih0, ih80⟩ := ih
    refine And.intro ?_ ?_
    · intro h x1 x3 x4 x5 q2 N k rk rk2 S z1 M Pq hq N0
      have M' := M
      obtain ⟨m1, m2, m3, m4, m5, m6, m7, m8⟩ := M'
      have N0' := N0
      obtain ⟨s1, s2, s3, s4, s5, s6⟩ := N0'
      have ub := usQ_b (vw h 56) (vw h 62) k
      have vb := vlQ_b (wo := vw h 57) (f := vw h 62) m4 k (arQ_m m3 s1) s5
      have sb := smQ_b N m3
      have sk := smQ_b k (arQ_m m3 s1)
      have sl := smQ_le s1 m3
      have B : QC (vw h) := ⟨fun t a b => ⟨(m7.2 t a b).1, (m7.2 t a b).2.1⟩, fun c a b => ⟨m4 c a b, by rw [(s6 c a b).1]; exact loQ_n c k (arQ_m m3 s1), (s6 c a b).2⟩, m6⟩
      have we : w32 (w32 (x5.toInt + vw h 55 1) - (k : Int)) = usQ (vw h 56) (vw h 62) k + (N : Int) - (k : Int) := by
        rw [m1, s4, w32_id (z := usQ (vw h 56) (vw h 62) k + (N : Int)) (by omega) (by omega)]; exact w32_id (by omega) (by omega)
      refine e49_0 S z1 rfl rfl rfl ⟨fun e => ⟨S, f49_r _, fun _ _ => rfl, ?_⟩, fun e y6 h6 p => ?_⟩
      · rw [we] at e
        exact ndQ_u m3 s1 e
      · obtain ⟨S6, rfl, Q⟩ := p
        have Y := Q B (by omega) (by omega) (by omega) (by omega)
        have Y2 : y6 = grQ (fun t => vw h6 55 9 - loQ (vw h6 56) (vw h6 62) k (vw h6 60 t)) (fun t => vw h6 57 (vw h6 60 t)) 8 0 (vlQ (vw h6 56) (vw h6 57) (vw h6 62) k) (smQ (vw h6 56) N - smQ (vw h6 56) k) := by
          rw [Y, s2, s3]
          exact grQ_c (fun t a b => ⟨by rw [(s6 _ (m7.2 t a b).1 (m7.2 t a b).2.1).1], rfl⟩) 8 0 _ _ rfl (Int.le_refl 0)
        refine ⟨fun c => ⟨fun d q1 q2 q3 g Sg eg => ⟨Sg, ?_⟩, fun d => ⟨fun d2 p0 p1 w6 w7 u8 u9 g6 g7 => ?_, fun d2 => absurd d2 (by omega)⟩⟩, fun c => ⟨S, f49_r _, fun _ _ => rfl, ndQ_b m3 s1 m7 m8 (by rw [← Y2]; exact c)⟩⟩
        · have kN : k = N := by omega
          subst kN
          rw [Y2, Int.sub_self, grQ_0] at c
          rw [we] at e
          rw [m1] at eg
          refine ⟨⟨fun c j n1 n2 n3 n4 => by rw [eg, cpy_c n2, up_c n1], fun j n1 => by rw [eg, cpy_c (by decide), up_j n1], fun j => by rw [eg, cpy_c (by decide), up_c (by decide)]⟩, fun j j1 => by rw [eg, cpy_c (by decide), up_c (by decide)], ?_⟩
          have e11 : vw g 55 11 = vlQ (vw h6 56) (vw h6 57) (vw h6 62) k := by rw [eg, cpy_c (by decide), up_s, s3]
          rw [e11]
          refine ndQ_e s5 (fun c a b => by rw [← (s6 c a b).1]; exact (s6 c a b).2) (by omega) c (fun j j0 j1 => ?_)
          rw [eg]
          unfold cpy
          rw [if_pos ⟨rfl, j0, by omega⟩, up_c (by decide)]
          exact congrArg _ (by omega)
        · refine ih80 S z1 (by omega) M Pq hq N0 g6.symm.symm ?_ ?_ ⟨f49_r _, fun _ _ => rfl, ?_⟩
          · omega
          · omega
          · rw [g7]
            exact lpQ_0 (fun c a b => ⟨(Pq.1 c a b).1, (Pq.1 c a b).2.1⟩) (by omega)
    · intro V0 h x1 x3 x4 x5 x6 x7 u8 u9 q2 N k rk rk2 S z1 kN M Pq hq N0 z6 l0 l8 L
      have M' := M
      obtain ⟨m1, m2, m3, m4, m5, m6, m7, m8⟩ := M'
      have N0' := N0
      obtain ⟨s1, s2, s3, s4, s5, s6⟩ := N0'
      have qq : vw h q2 = V0 q2 := f49_q L.1 (by omega)
      have av := m3 (k : Int) (by omega) (by omega)
      have ln := fun c => loQ_n (ar := V0 56) (f := V0 62) c k (arQ_m m3 s1)
      have hr : ∀ c, 0 ≤ c → c < 8 → 0 ≤ rk c ∧ rk c < 8 := fun c a b => ⟨(Pq.1 c a b).1, (Pq.1 c a b).2.1⟩
      refine e49_80 S z1 rfl rfl rfl rfl rfl (fun S1 g1 g3 g4 g5 => g_49 ih0 S1 g1 g3 g4 g5) ⟨fun e => ⟨S, L.1, L.2.1, ?_⟩, fun e p0 r0 r1 => ?_⟩
      · have R := L.2.2
        rw [show x7.toInt = 8 by omega] at R
        exact lpQ_8 hr kN R
      · have ld := s6 (V0 q2 x7.toInt) (by rw [← qq]; exact r0) (by rw [← qq]; exact r1)
        have l61 := L.1.2.2 (vw h q2 x7.toInt)
        have lq : loQ (V0 56) (V0 62) k (vw h q2 x7.toInt) = vw h 61 (vw h q2 x7.toInt) := by rw [l61, qq]; exact ld.1.symm
        have n1 := ln (vw h q2 x7.toInt)
        have e9 : vw h 55 9 = V0 55 9 := L.1.2.1 9 (by decide)
        have w1 : w32 (vw h 61 (vw h q2 x7.toInt) + x6.toInt) = vw h 61 (vw h q2 x7.toInt) + x6.toInt := by
          have := ld.2
          rw [qq] at l61
          rw [qq, l61]
          rw [qq] at n1 lq
          exact w32_id (by omega) (by omega)
        have nx : w32 (x7.toInt + 1) = x7.toInt + 1 := w32_id (by omega) (by omega)
        refine ⟨fun f w7 u8 u9 g7 => ?_, fun f => ⟨fun pos => ⟨fun ne i0 i1 g Sg eg g2 p2 g3 S3 e3 w7 u8 u9 g7 => ?_, fun eq => absurd eq (by omega)⟩, fun npos y g p => ?_⟩⟩
        · rw [nx] at g7
          refine ih80 S z1 kN M Pq hq N0 z6 (by omega) (by omega) ⟨L.1, L.2.1, ?_⟩
          rw [g7]
          refine lpQ_f m3 Pq l0 e kN ?_ L.2.2
          rw [← qq, lq, ← z6, ← e9]
          rw [w1] at f; exact f
        · rw [nx] at g7
          refine ih80 S3 z1 kN M Pq hq N0 z6 (by omega) (by omega) ?_
          rw [g7]
          exact st49 hq M Pq N0 kN l0 e z6 L f (d := 0) (by rw [if_neg ne]) eg p2.2 e3
        · obtain ⟨S6, rfl, Q⟩ := p
          refine ⟨fun yz w7 u8 u9 g7 => ?_, fun yn => ⟨fun ne => absurd npos (by omega), fun eq i0 i1 g Sg eg g2 p2 g3 S3 e3 w7 u8 u9 g7 => ?_⟩⟩
          · rw [nx] at g7
            refine ih80 S z1 kN M Pq hq N0 z6 (by omega) (by omega) ⟨L.1, L.2.1, ?_⟩
            rw [g7]
            obtain ⟨j, j0, j1, j2, j3⟩ := Q yz
            have q57 := f49_q L.1 (c := 57) (Or.inr (Or.inl rfl))
            refine lpQ_u m3 Pq l0 e kN j0 j1 ?_ ?_ ?_ L.2.2
            · rw [← qq, lq]; omega
            · have pj := Pq.2 j j0 (by omega)
              rw [← (s6 _ pj.1 pj.2.1).1, ← L.1.2.2, ← qq]; exact j2
            · rw [← qq, ← q57]; exact j3.symm
          · rw [nx] at g7
            refine ih80 S3 z1 kN M Pq hq N0 z6 (by omega) (by omega) ?_
            rw [g7]
            exact st49 hq M Pq N0 kN l0 e z6 L f (d := 1) (by rw [if_pos eq]) eg p2.2 e3
theorem c_49k {n : Nat} {X : aX} {h : aH} {x1 x3 x4 x5 : Int32} {q2 : Nat} {a1 a3 a4 a5 : Int} (S : wS h) (z1 : x1.toInt = a1) (z3 : x3.toInt = a3) (z4 : x4.toInt = a4) (z5 : x5.toInt = a5) : Pt n X zM49 0 [some (.ref 55), some (.int x1), some (.ref q2), some (.int x3), some (.int x4), some (.int x5), none, none, none, none] [] h (qN (fun h' => wS h' ∧ G49 (vw h) a1 q2 a3 a4 a5 (vw h'))) := g_49 (l_49k n).1 S z1 z3 z4 z5
end
section
-- ===== mix: the class, find =====
theorem e47_0 {n : Nat} {X : aX} {h : aH} {P : Int → aH → Prop} {x1 : Int32} {a1 : Int} (S : wS h) (z1 : x1.toInt = a1) (H : ∀ (h_3 : aH), (wS h_3 ∧ R332g (vw h) 0 (vw h_3)) → ∀ (h_4 : aH), (wS h_4 ∧ R48 (vw h_3) (vw h_4)) → ∀ h_8 : aH, wS h_8 → vw h_8 = up (up (vw h_4) 55 4 (vw h_4 55 1)) 55 11 (-1) → ∀ (h_13 : aH), (wS h_13 ∧ G49 (vw h_8) 0 60 a1 0 0 (vw h_13)) → ∀ h_17 : aH, wS h_17 → vw h_17 = up (vw h_13) 55 11 (w32 ((vw h_13 55 11) - 1)) → ∀ (h_22 : aH), (wS h_22 ∧ G49 (vw h_17) 0 59 a1 0 0 (vw h_22)) → P (vw h_22 55 11) h_22) : Pt (n + 1) X zM47 0 [some (.ref 55), some (.int x1)] [] h (qI P) := by
  refine pt_1 (fun n d => r_aloadn gx47_0 rfl) ?_
  refine pt_d (pt_getR gx47_1 S tr_55_7 ?_)
  refine pt_d (pt_iconst gx47_4 (fun v2 h2 => ?_))
  refine pt_d (pt_stat (as := [.ref 61, .int v2]) (r := []) gx47_5 rfl (show zmt[332]? = some zM332 from rfl) rfl rfl rfl rfl (c_332g S h2) (kqN (fun h_3 P3 => ?_)))
  have S3 := P3.1
  have H := H h_3 P3
  show Pt _ _ _ 8 _ [] _ _
  refine pt_d (pt_1 (fun n d => r_aloadn gx47_8 rfl) ?_)
  refine pt_d (pt_virt (as := []) (r := []) gx47_9 rfl (show zmt[48]? = some zM48 from rfl) rfl rfl rfl rfl (c_48k S3) (kqN (fun h_4 P4 => ?_)))
  have S4 := P4.1
  have H := H h_4 P4
  show Pt _ _ _ 12 _ [] _ _
  refine pt_d (pt_1 (fun n d => r_aloadn gx47_12 rfl) ?_)
  refine pt_d (pt_1 (fun n d => r_aloadn gx47_13 rfl) ?_)
  refine pt_d (pt_getI (B := 1) gx47_14 S4 (fun v5 h5 => ?_))
  refine pt_d (pt_putI (B := 4) gx47_17 S4 h5 (fun h_6 S6 e6 => ?_))
  refine pt_d (pt_1 (fun n d => r_aloadn gx47_20 rfl) ?_)
  refine pt_d (pt_iconst gx47_21 (fun v7 h7 => ?_))
  refine pt_d (pt_putI (B := 11) gx47_22 S6 h7 (fun h_8 S8 e8 => ?_))
  refine pt_d (pt_1 (fun n d => r_aloadn gx47_25 rfl) ?_)
  refine pt_d (pt_iconst gx47_26 (fun v9 h9 => ?_))
  refine pt_d (pt_1 (fun n d => r_aloadn gx47_27 rfl) ?_)
  refine pt_d (pt_getR gx47_28 S8 tr_55_6 ?_)
  refine pt_d (pt_1 (fun n d => r_iloadn gx47_31 rfl) ?_)
  refine pt_d (pt_iconst gx47_32 (fun v11 h11 => ?_))
  refine pt_d (pt_iconst gx47_33 (fun v12 h12 => ?_))
  have H := H h_8 S8 (by rw [e8, e6])
  refine pt_d (pt_virt (as := [.int v9, .ref 60, .int x1, .int v11, .int v12]) (r := []) gx47_34 rfl (show zmt[49]? = some zM49 from rfl) rfl rfl rfl rfl (c_49k S8 h9 z1 h11 h12) (kqN (fun h_13 P13 => ?_)))
  have S13 := P13.1
  have H := H h_13 P13
  show Pt _ _ _ 37 _ [] _ _
  refine pt_d (pt_1 (fun n d => r_aloadn gx47_37 rfl) ?_)
  refine pt_d (pt_1 (fun n d => r_dup gx47_38 rfl) ?_)
  refine pt_d (pt_getI (B := 11) gx47_39 S13 (fun v14 h14 => ?_))
  refine pt_d (pt_iconst gx47_42 (fun v15 h15 => ?_))
  refine pt_d (pt_isub gx47_43 h14 h15 (fun v16 h16 => ?_))
  refine pt_d (pt_putI (B := 11) gx47_44 S13 h16 (fun h_17 S17 e17 => ?_))
  refine pt_d (pt_1 (fun n d => r_aloadn gx47_47 rfl) ?_)
  refine pt_d (pt_iconst gx47_48 (fun v18 h18 => ?_))
  refine pt_d (pt_1 (fun n d => r_aloadn gx47_49 rfl) ?_)
  refine pt_d (pt_getR gx47_50 S17 tr_55_5 ?_)
  refine pt_d (pt_1 (fun n d => r_iloadn gx47_53 rfl) ?_)
  refine pt_d (pt_iconst gx47_54 (fun v20 h20 => ?_))
  refine pt_d (pt_iconst gx47_55 (fun v21 h21 => ?_))
  have H := H h_17 S17 (by rw [e17])
  refine pt_d (pt_virt (as := [.int v18, .ref 59, .int x1, .int v20, .int v21]) (r := []) gx47_56 rfl (show zmt[49]? = some zM49 from rfl) rfl rfl rfl rfl (c_49k S17 h18 z1 h20 h21) (kqN (fun h_22 P22 => ?_)))
  have S22 := P22.1
  have H := H h_22 P22
  show Pt _ _ _ 59 _ [] _ _
  refine pt_d (pt_1 (fun n d => r_aloadn gx47_59 rfl) ?_)
  refine pt_d (pt_getI (B := 11) gx47_60 S22 (fun v23 h23 => ?_))
  exact pt_d (pt_iret gx47_63 ⟨_, rfl, by rw [h23]; exact H⟩)
def PM (V : vS) (N : Nat) : Prop := V 55 1 = (N : Int) ∧ N ≤ 6 ∧ arQ (V 56) N ∧ (∀ c, 0 ≤ c → c < 8 → 0 ≤ V 57 c ∧ V 57 c ≤ 99) ∧ ∀ t, 0 ≤ t → t < 8 → V 59 t = t
def Q47 (V : vS) (a y : Int) (V' : vS) : Prop := ∀ N, PM V N → 0 ≤ V 55 9 → V 55 9 ≤ 3456 → a = smQ (V 56) N → (∃ f, feQ (V 56) N (V 55 9) (V 55 10) f) → 0 ≤ y ∧ V' 55 4 = (N : Int) ∧ rsQ (V 56) (V 57) (fun t => t) N (feQ (V 56) N (V 55 9) (V 55 10)) (-1) (V 58) y (V' 58)
theorem NS_0 {V : vS} {N : Nat} {a : Int} (ea : a = smQ (V 56) N) (r0 : 0 ≤ V 55 9) (z : ∀ c, 0 ≤ c → c < 8 → V 61 c = 0) : NS V N 0 a 0 0 :=
  ⟨Nat.zero_le _, by rw [ea]; show _ = smQ (V 56) N - 0; omega, rfl, rfl, fun j j0 j1 => by omega, fun c a b => ⟨by rw [z c a b]; rfl, by rw [z c a b]; exact r0⟩⟩
theorem c_47k {n : Nat} {X : aX} {h : aH} {x1 : Int32} {a1 : Int} (S : wS h) (z1 : x1.toInt = a1) : Pt n X zM47 0 [some (.ref 55), some (.int x1)] [] h (qI (fun y h' => wS h' ∧ Q47 (vw h) a1 y (vw h'))) := by
  refine pt_d (e47_0 S z1 (fun h3 p3 h4 p4 h8 S8 e8 h13 p13 h17 S17 e17 h22 p22 => ⟨p22.1, fun N M r0 r1 ea ex => ?_⟩))
  obtain ⟨-, F3, L3⟩ := p3
  obtain ⟨-, F4, rk, P4, M4⟩ := p4
  obtain ⟨n1, n2, A, W, i9⟩ := M
  have c8 : ∀ c : Nat, c ≠ 55 → c ≠ 60 → c ≠ 61 → vw h8 c = vw h c := fun c q1 q2 q3 => funext (fun j => by rw [e8, up_c q1, up_c q1, F4 c j q2, F3 c j q3])
  have c5 : ∀ j, j ≠ 4 → j ≠ 11 → vw h8 55 j = vw h 55 j := fun j q1 q2 => by rw [e8, up_j q2, up_j q1, F4 55 j (by decide), F3 55 j (by decide)]
  have c60 : vw h8 60 = vw h4 60 := funext (fun j => by rw [e8, up_c (by decide), up_c (by decide)])
  have c61 : ∀ c, 0 ≤ c → c < 8 → vw h8 61 c = 0 := fun c a b => by rw [e8, up_c (by decide), up_c (by decide), F4 61 c (by decide)]; exact L3 c a b
  have c4 : vw h8 55 4 = (N : Int) := by rw [e8, up_j (by decide), up_s, F4 55 1 (by decide), F3 55 1 (by decide), n1]
  have c11 : vw h8 55 11 = -1 := by rw [e8, up_s]
  have e56 := c8 56 (by decide) (by decide) (by decide)
  have e57 := c8 57 (by decide) (by decide) (by decide)
  have e58 := c8 58 (by decide) (by decide) (by decide)
  have e59 := c8 59 (by decide) (by decide) (by decide)
  have e1 := c5 1 (by decide) (by decide)
  have e9 := c5 9 (by decide) (by decide)
  have e10 := c5 10 (by decide) (by decide)
  have h57 : ∀ t, vw h3 57 t = vw h 57 t := fun t => F3 57 t (by decide)
  have MC8 : MC (vw h8) N rk := by
    unfold MC
    rw [e1, e9, e56, e57, c60]
    exact ⟨n1, n2, A, W, r0, r1, P4, fun t a b => by have := M4 t a b; rw [h57, h57] at this; exact this⟩
  have P8 : pmQ (vw h8 60) rk := by rw [c60]; exact P4
  obtain ⟨F13, K13, R13⟩ := p13.2 N 0 rk rk rfl MC8 P8 (Or.inr rfl) (NS_0 (by rw [e56]; exact ea) (by rw [e9]; exact r0) c61)
  have R13 := ndQ_0 R13
  rw [e56, e57, e58, e9, e10, c11] at R13
  have mb : -1 ≤ vw h13 55 11 ∧ vw h13 55 11 ≤ 400000 := by
    rcases R13 with ⟨q, -, -⟩ | ⟨q, ⟨f, fa, fv, -⟩, -⟩
    · omega
    · have := vlQ_b (wo := vw h 57) (f := f) W N A fa.1
      omega
  have d8 : ∀ c : Nat, (c = 56 ∨ c = 57 ∨ c = 59 ∨ c = 60) → vw h17 c = vw h8 c := fun c q => (funext (fun j => by rw [e17, up_c (by omega)])).trans (f49_q F13 q)
  have d5 : ∀ j, j ≠ 11 → vw h17 55 j = vw h8 55 j := fun j q => by rw [e17, up_j q, F13.2.1 j q]
  have d58 : vw h17 58 = vw h13 58 := funext (fun j => by rw [e17, up_c (by decide)])
  have d61 : ∀ c, 0 ≤ c → c < 8 → vw h17 61 c = 0 := fun c a b => by rw [e17, up_c (by decide), F13.2.2, c61 c a b]
  have d11 : vw h17 55 11 = vw h13 55 11 - 1 := by rw [e17, up_s]; exact w32_id (by omega) (by omega)
  have MC17 : MC (vw h17) N rk := MC_m MC8 (d5 1 (by decide)) (d5 9 (by decide)) (d8 56 (by decide)) (d8 57 (by decide)) (d8 60 (by decide))
  have P17 : pmQ (vw h17 59) (fun t => t) := by
    rw [d8 59 (by decide), e59]
    exact ⟨fun c a b => ⟨a, b, i9 c a b⟩, fun t a b => by rw [i9 t a b]; exact ⟨a, b, rfl⟩⟩
  obtain ⟨F22, K22, R22⟩ := p22.2 N 0 (fun t => t) rk rfl MC17 P17 (Or.inl rfl) (NS_0 (by rw [d8 56 (by decide), e56]; exact ea) (by rw [d5 9 (by decide), e9]; exact r0) d61)
  have R22 := ndQ_0 R22
  rw [d8 56 (by decide), d8 57 (by decide), d5 9 (by decide), d5 10 (by decide), d58, d11, e56, e57, e9, e10] at R22
  have tw := rsQ_two (fun f fa => vlQ_n (fun c a b => (W c a b).1) N A fa.1) ex R13 R22
  exact ⟨tw.1, by rw [F22.2.1 4 (by decide), d5 4 (by decide), c4], tw.2⟩
end
section
-- ===== mix: the class, find =====
theorem e46_0 {n : Nat} {X : aX} {h : aH} {P : Int → aH → Prop} {x1 x2 : Int32} {a1 a2 : Int} (S : wS h) (z1 : x1.toInt = a1) (z2 : x2.toInt = a2) (H : (∀ (w3 : Int32) (w4 : Int32) (w5 : Int32), w3.toInt = 0 → w4.toInt = 0 → w5.toInt = 0 → Pt n X zM46 8 [some (.ref 55), some (.int x1), some (.int x2), some (.int w3), some (.int w4), some (.int w5)] [] h (qI P))) : Pt (n + 1) X zM46 0 [some (.ref 55), some (.int x1), some (.int x2), none, none, none] [] h (qI P) := by
  refine pt_iconst gx46_0 (fun v1 h1 => ?_)
  refine pt_d (pt_1 (fun n d => r_istoren (L' := [some (.ref 55), some (.int x1), some (.int x2), some (.int v1), none, none]) gx46_1 rfl rfl) ?_)
  refine pt_d (pt_iconst gx46_2 (fun v2 h2 => ?_))
  refine pt_d (pt_1 (fun n d => r_istore (L' := [some (.ref 55), some (.int x1), some (.int x2), some (.int v1), some (.int v2), none]) gx46_3 rfl rfl) ?_)
  refine pt_d (pt_iconst gx46_5 (fun v3 h3 => ?_))
  refine pt_d (pt_1 (fun n d => r_istore (L' := [some (.ref 55), some (.int x1), some (.int x2), some (.int v1), some (.int v2), some (.int v3)]) gx46_6 rfl rfl) ?_)
  exact H v1 v2 v3 h1 h2 h3
theorem e46_8 {n : Nat} {X : aX} {h : aH} {P : Int → aH → Prop} {x1 x2 x3 x4 x5 : Int32} {a1 a2 a3 a4 a5 : Int} (S : wS h) (z1 : x1.toInt = a1) (z2 : x2.toInt = a2) (z3 : x3.toInt = a3) (z4 : x4.toInt = a4) (z5 : x5.toInt = a5) (H : ((vw h 55 1 ≤ a5 → ((iDiv (w32 (a3 * a1)) 100 < a4 → ∀ h_12 : aH, wS h_12 → vw h_12 = up (up (up (vw h) 55 9 (iDiv (w32 (a3 * a1)) 100)) 55 10 a2) 55 1 0 → P (-2) h_12) ∧ (a4 ≤ iDiv (w32 (a3 * a1)) 100 → ((vw h 55 1 < a2 → ∀ h_16 : aH, wS h_16 → vw h_16 = up (up (up (vw h) 55 9 (iDiv (w32 (a3 * a1)) 100)) 55 10 a2) 55 1 0 → P (-2) h_16) ∧ (a2 ≤ vw h 55 1 → ∀ h_7 : aH, wS h_7 → vw h_7 = up (up (vw h) 55 9 (iDiv (w32 (a3 * a1)) 100)) 55 10 a2 → ∀ (y17 : Int) (h_17 : aH), (wS h_17 ∧ Q47 (vw h_7) a3 y17 (vw h_17)) → ∀ h_19 : aH, wS h_19 → vw h_19 = up (vw h_17) 55 1 0 → P y17 h_19))))) ∧ (a5 < vw h 55 1 → (0 ≤ a5 → a5 < 6 → (∀ (w3 : Int32) (w4 : Int32) (w5 : Int32), w3.toInt = w32 (a3 + (vw h 56 a5)) → w4.toInt = max a4 (vw h 56 a5) → w5.toInt = w32 (a5 + 1) → Pt n X zM46 8 [some (.ref 55), some (.int x1), some (.int x2), some (.int w3), some (.int w4), some (.int w5)] [] h (qI P)))))) : Pt (n + 1) X zM46 8 [some (.ref 55), some (.int x1), some (.int x2), some (.int x3), some (.int x4), some (.int x5)] [] h (qI P) := by
  refine pt_1 (fun n d => r_iload gx46_8 rfl) ?_
  refine pt_d (pt_1 (fun n d => r_aloadn gx46_10 rfl) ?_)
  refine pt_d (pt_getI (B := 1) gx46_11 S (fun v1 h1 => ?_))
  refine pt_d (pt_icmp_ge gx46_14 z5 h1 (fun e2 => ?_) (fun e2 => ?_))
  · have H := H.1 e2
    refine pt_d (pt_1 (fun n d => r_aloadn gx46_47 rfl) ?_)
    refine pt_d (pt_1 (fun n d => r_iloadn gx46_48 rfl) ?_)
    refine pt_d (pt_1 (fun n d => r_iloadn gx46_49 rfl) ?_)
    refine pt_d (pt_imul gx46_50 z3 z1 (fun v3 h3 => ?_))
    refine pt_d (pt_bipush gx46_51 (fun v4 h4 => ?_))
    refine pt_d (pt_idiv gx46_53 h3 h4 (fun v5 h5 => ?_))
    refine pt_d (pt_putI (B := 9) gx46_54 S h5 (fun h_6 S6 e6 => ?_))
    refine pt_d (pt_1 (fun n d => r_aloadn gx46_57 rfl) ?_)
    refine pt_d (pt_1 (fun n d => r_iloadn gx46_58 rfl) ?_)
    refine pt_d (pt_putI (B := 10) gx46_59 S6 z2 (fun h_7 S7 e7 => ?_))
    refine pt_d (pt_bipush gx46_62 (fun v8 h8 => ?_))
    refine pt_d (pt_1 (fun n d => r_istore (L' := [some (.ref 55), some (.int x1), some (.int x2), some (.int x3), some (.int x4), some (.int v8)]) gx46_64 rfl rfl) ?_)
    refine pt_d (pt_1 (fun n d => r_iload gx46_66 rfl) ?_)
    refine pt_d (pt_1 (fun n d => r_aloadn gx46_68 rfl) ?_)
    refine pt_d (pt_getI (B := 9) gx46_69 S7 (fun v9 h9 => ?_))
    have h9 : v9.toInt = iDiv (w32 (a3 * a1)) 100 := by rw [h9, e7, up_j (by decide), e6, up_s]
    refine pt_d (pt_icmp_gt gx46_72 z4 h9 (fun e10 => ?_) (fun e10 => ?_))
    · have H := H.1 e10
      refine pt_d (pt_1 (fun n d => r_aloadn gx46_90 rfl) ?_)
      refine pt_d (pt_iconst gx46_91 (fun v11 h11 => ?_))
      refine pt_d (pt_putI (B := 1) gx46_92 S7 h11 (fun h_12 S12 e12 => ?_))
      refine pt_d (pt_1 (fun n d => r_iload gx46_95 rfl) ?_)
      have H := H h_12 S12 (by rw [e12, e7, e6])
      exact pt_d (pt_iret gx46_97 ⟨_, rfl, by rw [h8]; exact H⟩)
    · have H := H.2 e10
      refine pt_d (pt_1 (fun n d => r_aloadn gx46_75 rfl) ?_)
      refine pt_d (pt_getI (B := 1) gx46_76 S7 (fun v13 h13 => ?_))
      have h13 : v13.toInt = vw h 55 1 := by rw [h13, e7, up_j (by decide), e6, up_j (by decide)]
      refine pt_d (pt_1 (fun n d => r_iloadn gx46_79 rfl) ?_)
      refine pt_d (pt_icmp_lt gx46_80 h13 z2 (fun e14 => ?_) (fun e14 => ?_))
      · have H := H.1 e14
        refine pt_d (pt_1 (fun n d => r_aloadn gx46_90 rfl) ?_)
        refine pt_d (pt_iconst gx46_91 (fun v15 h15 => ?_))
        refine pt_d (pt_putI (B := 1) gx46_92 S7 h15 (fun h_16 S16 e16 => ?_))
        refine pt_d (pt_1 (fun n d => r_iload gx46_95 rfl) ?_)
        have H := H h_16 S16 (by rw [e16, e7, e6])
        exact pt_d (pt_iret gx46_97 ⟨_, rfl, by rw [h8]; exact H⟩)
      · have H := H.2 e14
        refine pt_d (pt_1 (fun n d => r_aloadn gx46_83 rfl) ?_)
        refine pt_d (pt_1 (fun n d => r_iloadn gx46_84 rfl) ?_)
        have H := H h_7 S7 (by rw [e7, e6])
        refine pt_d (pt_virt (as := [.int x3]) (r := []) gx46_85 rfl (show zmt[47]? = some zM47 from rfl) rfl rfl rfl rfl (c_47k S7 z3) (kqI (fun v17 y17 h_17 h17 P17 => ?_)))
        have S17 := P17.1
        have H := H y17 h_17 P17
        show Pt _ _ _ 88 _ [.int v17] _ _
        refine pt_d (pt_1 (fun n d => r_istore (L' := [some (.ref 55), some (.int x1), some (.int x2), some (.int x3), some (.int x4), some (.int v17)]) gx46_88 rfl rfl) ?_)
        refine pt_d (pt_1 (fun n d => r_aloadn gx46_90 rfl) ?_)
        refine pt_d (pt_iconst gx46_91 (fun v18 h18 => ?_))
        refine pt_d (pt_putI (B := 1) gx46_92 S17 h18 (fun h_19 S19 e19 => ?_))
        refine pt_d (pt_1 (fun n d => r_iload gx46_95 rfl) ?_)
        have H := H h_19 S19 (by rw [e19])
        exact pt_d (pt_iret gx46_97 ⟨_, rfl, by rw [h17]; exact H⟩)
  · have H := H.2 e2
    refine pt_d (pt_1 (fun n d => r_iloadn gx46_17 rfl) ?_)
    refine pt_d (pt_1 (fun n d => r_aloadn gx46_18 rfl) ?_)
    refine pt_d (pt_getR gx46_19 S tr_55_0 ?_)
    refine pt_d (pt_1 (fun n d => r_iload gx46_22 rfl) ?_)
    refine pt_d (pt_iald (N' := 6) gx46_24 S tl_56 z5 (fun v21 p21 q21 h21 => ?_))
    have H := H p21 q21
    refine pt_d (pt_iadd gx46_25 z3 h21 (fun v22 h22 => ?_))
    refine pt_d (pt_1 (fun n d => r_istoren (L' := [some (.ref 55), some (.int x1), some (.int x2), some (.int v22), some (.int x4), some (.int x5)]) gx46_26 rfl rfl) ?_)
    refine pt_d (pt_1 (fun n d => r_iload gx46_27 rfl) ?_)
    refine pt_d (pt_1 (fun n d => r_aloadn gx46_29 rfl) ?_)
    refine pt_d (pt_getR gx46_30 S tr_55_0 ?_)
    refine pt_d (pt_1 (fun n d => r_iload gx46_33 rfl) ?_)
    refine pt_d (pt_iald (N' := 6) gx46_35 S tl_56 z5 (fun v24 p24 q24 h24 => ?_))
    refine pt_d (pt_max gx46_36 rfl z4 h24 (fun v25 h25 => ?_))
    refine pt_d (pt_1 (fun n d => r_istore (L' := [some (.ref 55), some (.int x1), some (.int x2), some (.int v22), some (.int v25), some (.int x5)]) gx46_39 rfl rfl) ?_)
    refine pt_d (pt_iinc (c := 1) gx46_41 rfl z5 (fun v26 h26 => ?_))
    show Pt _ _ _ _ [some (.ref 55), some (.int x1), some (.int x2), some (.int v22), some (.int v25), some (.int v26)] [] _ _
    refine pt_d (pt_1 (fun n d => r_goto gx46_44) ?_)
    exact H v22 v25 v26 h22 h25 h26
def S46 (V : vS) (N : Nat) (R b y : Int) (V' : vS) : Prop := ((∀ f, ¬ feQ (V 56) N R b f) ∧ y = -2 ∧ V' 55 4 = V 55 4 ∧ ∀ j, V' 58 j = V 58 j) ∨ (0 ≤ y ∧ V' 55 4 = (N : Int) ∧ rsQ (V 56) (V 57) (fun t => t) N (feQ (V 56) N R b) (-1) (V 58) y (V' 58))
def G46 (V : vS) (a b y : Int) (V' : vS) : Prop := ∀ N, PM V N → 1 ≤ a → a ≤ 100 → 1 ≤ b → b ≤ 3 → ∃ R, 0 ≤ R ∧ R ≤ 3456 ∧ 100 * R ≤ smQ (V 56) N * a ∧ smQ (V 56) N * a < 100 * R + 100 ∧ S46 V N R b y V'
theorem mul_b {s a : Int} (s0 : 0 ≤ s) (s1 : s ≤ 3456) (a0 : 1 ≤ a) (a1 : a ≤ 100) : 0 ≤ s * a ∧ s * a ≤ 345600 := by
  have p0 := Int.mul_nonneg (a := s) (b := a) s0 (by omega)
  have p1 : s * a ≤ s * 100 := Int.mul_le_mul_of_nonneg_left a1 s0
  omega
theorem l_46k {X : aX} {N : Nat} {h : aH} {x1 x2 : Int32} (S : wS h) (M : PM (vw h) N) (a0 : 1 ≤ x1.toInt) (a1 : x1.toInt ≤ 100) (b0 : 1 ≤ x2.toInt) (b1 : x2.toInt ≤ 3) : ∀ (n k : Nat) (x3 x4 x5 : Int32), x3.toInt = smQ (vw h 56) k → (∀ j : Int, 0 ≤ j → j < (k : Int) → vw h 56 j ≤ x4.toInt) → (x4.toInt = 0 ∨ ∃ j : Int, 0 ≤ j ∧ j < (k : Int) ∧ vw h 56 j = x4.toInt) → x5.toInt = (k : Int) → k ≤ N → Pt n X zM46 8 [some (.ref 55), some (.int x1), some (.int x2), some (.int x3), some (.int x4), some (.int x5)] [] h (qI (fun y h' => wS h' ∧ (vw h' 55 1 = 0 ∧ G46 (vw h) x1.toInt x2.toInt y (vw h')))) := by
  have M' := M
  obtain ⟨n1, n2, A, W, i9⟩ := M'
  intro n
  induction n with
  | zero => exact fun _ _ _ _ _ _ _ _ _ => pt_z
  | succ n ih =>
    intro k x3 x4 x5 e3 m1 m2 e5 kN
    have sb := smQ_b k (arQ_m A kN)
    have fin : k = N → iDiv (w32 (x3.toInt * x1.toInt)) 100 = smQ (vw h 56) N * x1.toInt / 100 ∧ 0 ≤ smQ (vw h 56) N * x1.toInt ∧ smQ (vw h 56) N * x1.toInt ≤ 345600 := by
      intro q
      subst q
      have mb := mul_b (s := x3.toInt) (by omega) (by omega) a0 a1
      rw [w32_id (by omega) (by omega), iDiv_pos mb.1 (by omega) (by decide) (by decide), ← e3]
      exact ⟨rfl, mb⟩
    have out : ∀ (N' : Nat), PM (vw h) N' → N' = N := fun N' M' => by have := M'.1; omega
    have fin2 : ∀ {y : Int} {V' : vS}, k = N → S46 (vw h) N (smQ (vw h 56) N * x1.toInt / 100) x2.toInt y V' → G46 (vw h) x1.toInt x2.toInt y V' := by
      intro y V' q s N' M' _ _ _ _
      obtain rfl := out N' M'
      have f := fin q
      exact ⟨_, by omega, by omega, by omega, by omega, s⟩
    refine e46_8 S rfl rfl rfl rfl rfl ⟨fun e => ?_, fun e p0 p1 w3 w4 w5 g3 g4 g5 => ?_⟩
    · have q : k = N := by omega
      have f := fin q
      rw [f.1]
      refine ⟨fun c g Sg eg => ⟨Sg, by rw [eg, up_s], fin2 q (Or.inl ⟨fun f' F => ?_, rfl, by rw [eg, up_j (by decide), up_j (by decide), up_j (by decide)], fun j => by rw [eg, up_c (by decide), up_c (by decide), up_c (by decide)]⟩)⟩, fun c => ⟨fun d g Sg eg => ⟨Sg, by rw [eg, up_s], fin2 q (Or.inl ⟨fun f' F => ?_, rfl, by rw [eg, up_j (by decide), up_j (by decide), up_j (by decide)], fun j => by rw [eg, up_c (by decide), up_c (by decide), up_c (by decide)]⟩)⟩, fun d g Sg eg y g2 p2 g3 Sg3 eg3 => ⟨Sg3, by rw [eg3, up_s], fin2 q (Or.inr ?_)⟩⟩⟩
      · have no := feQ_no A F
        rcases m2 with m2 | ⟨j, j0, j1, j2⟩
        · omega
        · have := no.1 j j0 (by omega)
          omega
      · have no := feQ_no A F
        omega
      · have g9 : vw g 55 9 = smQ (vw h 56) N * x1.toInt / 100 := by rw [eg, up_j (by decide), up_s]
        have g10 : vw g 55 10 = x2.toInt := by rw [eg, up_s]
        have gc : ∀ c : Nat, c ≠ 55 → vw g c = vw h c := fun c n => funext (fun j => by rw [eg, up_c n, up_c n])
        have MG : PM (vw g) N := by
          unfold PM
          rw [gc 56 (by decide), gc 57 (by decide), gc 59 (by decide), eg, up_j (by decide), up_j (by decide)]
          exact M
        have r := p2.2 N MG (by rw [g9]; omega) (by rw [g9]; omega) (by rw [gc 56 (by decide), e3, q]) ?_
        · rw [gc 56 (by decide), gc 57 (by decide), gc 58 (by decide), g9, g10] at r
          have x58 : vw g3 58 = vw g2 58 := funext (fun j => by rw [eg3, up_c (by decide)])
          rw [x58]
          exact ⟨r.1, by rw [eg3, up_j (by decide)]; exact r.2.1, r.2.2⟩
        · rw [gc 56 (by decide), g9, g10]
          refine ⟨_, feQ_id A (by omega) (by omega) (fun j j0 j1 => ?_) (by omega)⟩
          have := m1 j j0 (by omega)
          omega
    · have av := A (k : Int) (by omega) (by omega)
      rw [e5] at g3 g4
      rw [w32_id (by omega) (by omega)] at g3 g5
      refine ih (k + 1) w3 w4 w5 (by rw [g3, e3]; rfl) (fun j j0 j1 => ?_) ?_ (by omega) (by omega)
      · by_cases z : j = (k : Int)
        · rw [z]; omega
        · have := m1 j j0 (by omega)
          omega
      · by_cases z : x4.toInt ≤ vw h 56 (k : Int)
        · exact Or.inr ⟨(k : Int), by omega, by omega, by omega⟩
        · rcases m2 with m2 | ⟨j, j0, j1, j2⟩
          · omega
          · exact Or.inr ⟨j, j0, by omega, by omega⟩
theorem c_46k {n : Nat} {X : aX} {h : aH} {x1 x2 : Int32} {a1 a2 : Int} (S : wS h) (z1 : x1.toInt = a1) (z2 : x2.toInt = a2) : Pt n X zM46 0 [some (.ref 55), some (.int x1), some (.int x2), none, none, none] [] h (qI (fun y h' => wS h' ∧ (vw h' 55 1 = 0 ∧ G46 (vw h) a1 a2 y (vw h')))) := by
  subst z1 z2
  by_cases B : ∃ N, PM (vw h) N ∧ 1 ≤ x1.toInt ∧ x1.toInt ≤ 100 ∧ 1 ≤ x2.toInt ∧ x2.toInt ≤ 3
  · obtain ⟨N, M, a0, a1, b0, b1⟩ := B
    exact pt_d (e46_0 S rfl rfl (fun w3 w4 w5 g3 g4 g5 => l_46k S M a0 a1 b0 b1 n 0 w3 w4 w5 g3 (fun j j0 j1 => by omega) (Or.inl g4) g5 (Nat.zero_le _)))
  · refine pt_q (c_46 S rfl rfl) ?_
    rintro v h' ⟨y, e, S', q⟩
    exact ⟨y, e, S', q, fun N M a0 a1 b0 b1 => absurd ⟨N, M, a0, a1, b0, b1⟩ B⟩

theorem e183_0 {n : Nat} {X : aX} {h : aH} {P : Int → aH → Prop} {x1 x2 : Int32} {a1 a2 : Int} (S : wS h) (z1 : x1.toInt = a1) (z2 : x2.toInt = a2) (H : ((¬ (1 ≤ a1 ∧ a1 ≤ 100) → P (-1) h) ∧ ((1 ≤ a1 ∧ a1 ≤ 100) → ((¬ (1 ≤ a2 ∧ a2 ≤ 3) → P (-1) h) ∧ ((1 ≤ a2 ∧ a2 ≤ 3) → ((vw h 55 1 ≠ 0 → ∀ (y15 : Int) (h_15 : aH), (wS h_15 ∧ (vw h_15 55 1 = 0 ∧ G46 (vw h) a1 a2 y15 (vw h_15))) → P y15 h_15) ∧ (vw h 55 1 = 0 → P (-1) h))))))) : Pt (n + 1) X zM183 0 [some (.ref 0), some (.int x1), some (.int x2)] [] h (qI P) := by
  refine pt_1 (fun n d => r_iloadn gx183_0 rfl) ?_
  refine pt_d (pt_iconst gx183_1 (fun v1 h1 => ?_))
  refine pt_d (pt_bipush gx183_2 (fun v2 h2 => ?_))
  refine pt_d (pt_stat (as := [.int x1, .int v1, .int v2]) (r := []) gx183_4 rfl (show zmt[137]? = some zM137 from rfl) rfl rfl rfl rfl (c_137 S z1 h1 h2) (kqP (fun v3 h3 => ?_)))
  show Pt _ _ _ 7 _ [.int v3] _ _
  refine pt_d (pt_ifB_eq gx183_7 h3 (fun e4 => ?_) (fun e4 => ?_))
  · have H := H.1 e4
    refine pt_d (pt_iconst gx183_29 (fun v5 h5 => ?_))
    exact pt_d (pt_iret gx183_30 ⟨_, rfl, by rw [h5]; exact H⟩)
  · have H := H.2 e4
    refine pt_d (pt_1 (fun n d => r_iloadn gx183_10 rfl) ?_)
    refine pt_d (pt_iconst gx183_11 (fun v6 h6 => ?_))
    refine pt_d (pt_iconst gx183_12 (fun v7 h7 => ?_))
    refine pt_d (pt_stat (as := [.int x2, .int v6, .int v7]) (r := []) gx183_13 rfl (show zmt[137]? = some zM137 from rfl) rfl rfl rfl rfl (c_137 S z2 h6 h7) (kqP (fun v8 h8 => ?_)))
    show Pt _ _ _ 16 _ [.int v8] _ _
    refine pt_d (pt_ifB_eq gx183_16 h8 (fun e9 => ?_) (fun e9 => ?_))
    · have H := H.1 e9
      refine pt_d (pt_iconst gx183_29 (fun v10 h10 => ?_))
      exact pt_d (pt_iret gx183_30 ⟨_, rfl, by rw [h10]; exact H⟩)
    · have H := H.2 e9
      refine pt_d (pt_1 (fun n d => r_aloadn gx183_19 rfl) ?_)
      refine pt_d (pt_getR gx183_20 S tr_0_6 ?_)
      refine pt_d (pt_getI (B := 1) gx183_23 S (fun v12 h12 => ?_))
      refine pt_d (pt_if_ne gx183_26 h12 (fun e13 => ?_) (fun e13 => ?_))
      · have H := H.1 e13
        refine pt_d (pt_1 (fun n d => r_aloadn gx183_31 rfl) ?_)
        refine pt_d (pt_getR gx183_32 S tr_0_6 ?_)
        refine pt_d (pt_1 (fun n d => r_iloadn gx183_35 rfl) ?_)
        refine pt_d (pt_1 (fun n d => r_iloadn gx183_36 rfl) ?_)
        refine pt_d (pt_virt (as := [.int x1, .int x2]) (r := []) gx183_37 rfl (show zmt[46]? = some zM46 from rfl) rfl rfl rfl rfl (c_46k S z1 z2) (kqI (fun v15 y15 h_15 h15 P15 => ?_)))
        have S15 := P15.1
        have H := H y15 h_15 P15
        show Pt _ _ _ 40 _ [.int v15] _ _
        exact pt_d (pt_iret gx183_40 ⟨_, rfl, by rw [h15]; exact H⟩)
      · have H := H.2 e13
        refine pt_d (pt_iconst gx183_29 (fun v16 h16 => ?_))
        exact pt_d (pt_iret gx183_30 ⟨_, rfl, by rw [h16]; exact H⟩)
def R183k (V : vS) (a b y : Int) (V' : vS) : Prop := (bad183 V a b ∧ y = -1 ∧ V' = V) ∨ (¬ bad183 V a b ∧ V' 55 1 = 0 ∧ G46 V a b y V')
theorem c_183k {n : Nat} {X : aX} {h : aH} {x1 x2 : Int32} {a1 a2 : Int} (S : wS h) (z1 : x1.toInt = a1) (z2 : x2.toInt = a2) : Pt n X zM183 0 [some (.ref 0), some (.int x1), some (.int x2)] [] h (qI (fun y h' => R183k (vw h) a1 a2 y (vw h'))) := by
  refine pt_d (e183_0 S z1 z2 ⟨fun e => Or.inl ⟨Or.inl e, rfl, rfl⟩, fun e => ⟨fun e2 => Or.inl ⟨Or.inr (Or.inl e2), rfl, rfl⟩, fun e2 => ⟨fun e3 y g p => Or.inr ⟨fun z => z.elim (fun z => z e) (fun z => z.elim (fun z => z e2) e3), p.2⟩, fun e3 => Or.inl ⟨Or.inr (Or.inr e3), rfl, rfl⟩⟩⟩⟩)
end
section
-- ===== mix: the reference =====
def PN (V : vS) (N : Nat) : Prop := V 72 87 = (N : Int) ∧ N ≤ 6 ∧ arQ (V 136) N ∧ ∀ c, 0 ≤ c → c < 8 → 0 ≤ V 137 c ∧ V 137 c ≤ 99
def MS (V : vS) (N k : Nat) (e l R : Int) : Prop := k ≤ N ∧ e = vlQ (V 136) (V 137) (V 138) k ∧ rgQ (V 138) k ∧ (∀ c, 0 ≤ c → c < 8 → V 140 c = loQ (V 136) (V 138) k c ∧ V 140 c ≤ R) ∧ 0 ≤ R ∧ R ≤ 3456 ∧ 100 * R ≤ l ∧ l < 100 * R + 100
def f301 (V V' : vS) : Prop := (∀ (c : Nat) j, c ≠ 72 → c ≠ 138 → c ≠ 139 → c ≠ 140 → V' c j = V c j) ∧ (∀ j, j ≠ 94 → V' 72 j = V 72 j) ∧ ∀ j, V' 140 j = V 140 j
def R301 (V : vS) (N k : Nat) (R q : Int) (V' : vS) : Prop := f301 V V' ∧ (∀ j, j < (k : Int) → V' 138 j = V 138 j) ∧ (∀ j, (N : Int) ≤ j → V' 139 j = V 139 j) ∧ rsQ (V 136) (V 137) (fun t => t) N (ndQ (V 136) N R q k (V 138)) (V 72 94) (V 139) (V' 72 94) (V' 139)
def G301 (V : vS) (a1 a2 a3 a4 : Int) (V' : vS) : Prop := ∀ (N k : Nat) (R : Int), a1 = (k : Int) → PN V N → MS V N k a2 a3 R → R301 V N k R a4 V'
def LNq (V0 V : vS) (N k : Nat) (R q i : Int) : Prop := f301 V0 V ∧ (∀ j, j < (k : Int) → V 138 j = V0 138 j) ∧ (∀ j, (N : Int) ≤ j → V 139 j = V0 139 j) ∧ rsQ (V0 136) (V0 137) (fun t => t) N (lpQ (V0 136) N R q k (V0 138) (fun t => t) i) (V0 72 94) (V0 139) (V 72 94) (V 139)
theorem f301_r (V : vS) : f301 V V := ⟨fun _ _ _ _ _ _ => rfl, fun _ _ => rfl, fun _ => rfl⟩
theorem f301_q {V V' : vS} (f : f301 V V') {c : Nat} (h : c = 136 ∨ c = 137) : V' c = V c := by
  rcases h with rfl | rfl <;> exact funext (fun j => f.1 _ j (by decide) (by decide) (by decide) (by decide))
theorem st301 {V0 V Vg V2 V3 : vS} {N k : Nat} {R q i e l : Int} (M : PN V0 N) (S : MS V0 N k e l R) (lt : k < N) (i0 : 0 ≤ i) (i1 : i < 8) (L : LNq V0 V N k R q i) (fit : w32 (100 * w32 (V 140 i + V 136 (k : Int))) ≤ l) (eg : Vg = up (up V 138 (k : Int) i) 140 i (w32 (V 140 i + V 136 (k : Int)))) (G : G301 Vg (w32 ((k : Int) + 1)) (w32 (e + w32 (V 136 (k : Int) * V 137 i))) l q V2) (e3 : V3 = up V2 140 i (w32 (V2 140 i - V2 136 (k : Int)))) : LNq V0 V3 N k R q (i + 1) := by
  obtain ⟨F, K, K9, RR⟩ := L
  have M' := M
  obtain ⟨m1, m2, m3, m4⟩ := M'
  have S' := S
  obtain ⟨s1, s2, s3, s4, s5, s6, s7, s8⟩ := S'
  have q136 := f301_q F (c := 136) (Or.inl rfl)
  have q137 := f301_q F (c := 137) (Or.inr rfl)
  rw [q136] at fit eg G
  rw [q137] at G
  have av := m3 (k : Int) (by omega) (by omega)
  have ld := s4 i i0 i1
  have l140 := F.2.2 i
  have ln := loQ_n (ar := V0 136) (f := V0 138) i k (arQ_m m3 s1)
  have w1 : w32 (V 140 i + V0 136 (k : Int)) = V0 140 i + V0 136 (k : Int) := by rw [l140]; exact w32_id (by omega) (by omega)
  rw [w1, w32_id (by omega) (by omega)] at fit
  rw [w1] at eg
  have gc : ∀ c : Nat, c ≠ 138 → c ≠ 140 → Vg c = V c := fun c n1 n2 => funext (fun j => by rw [eg, up_c n2, up_c n1])
  have g136 : Vg 136 = V0 136 := (gc 136 (by decide) (by decide)).trans q136
  have g137 : Vg 137 = V0 137 := (gc 137 (by decide) (by decide)).trans q137
  have g139 : Vg 139 = V 139 := gc 139 (by decide) (by decide)
  have g72 : Vg 72 = V 72 := gc 72 (by decide) (by decide)
  have g140 : ∀ j, Vg 140 j = if j = i then V0 140 i + V0 136 (k : Int) else V0 140 j := fun j => by
    rw [eg, up_p]
    by_cases z : j = i
    · rw [if_pos z, if_pos z]
    · rw [if_neg z, if_neg z, up_c (by decide)]; exact F.2.2 j
  have gk : Vg 138 (k : Int) = i := by rw [eg, up_c (by decide), up_s]
  have g138 : egQ (Vg 138) (V0 138) k := fun j j0 j1 => by rw [eg, up_c (by decide), up_j (by omega)]; exact K j j1
  have e87 : V 72 87 = V0 72 87 := F.2.1 87 (by decide)
  have MG : PN Vg N := by
    unfold PN
    rw [g72, e87, g136, g137]
    exact M
  have aw := m4 i i0 i1
  have p0 := Int.mul_nonneg (a := V0 136 (k : Int)) (b := V0 137 i) (by omega) aw.1
  have p1 : V0 136 (k : Int) * V0 137 i ≤ V0 136 (k : Int) * 99 := Int.mul_le_mul_of_nonneg_left aw.2 (by omega)
  have vb := vlQ_b (wo := V0 137) (f := V0 138) m4 k (arQ_m m3 s1) s3
  have SG : MS Vg N (k + 1) (w32 (e + w32 (V0 136 (k : Int) * V0 137 i))) l R := by
    unfold MS
    rw [g136, g137, w32_id (z := V0 136 (k : Int) * V0 137 i) (by omega) (by omega), w32_id (z := e + V0 136 (k : Int) * V0 137 i) (by omega) (by omega)]
    refine ⟨lt, ?_, fun j j0 j1 => ?_, fun c d0 d1 => ?_, s5, s6, s7, s8⟩
    · show e + V0 136 (k : Int) * V0 137 i = vlQ (V0 136) (V0 137) (Vg 138) k + V0 136 (k : Int) * V0 137 (Vg 138 (k : Int))
      rw [vlQ_cg k g138, gk, s2]
    · by_cases z : j = (k : Int)
      · rw [z, gk]; exact ⟨i0, i1⟩
      · rw [g138 j j0 (by omega)]; exact s3 j j0 (by omega)
    · have lo1 : loQ (V0 136) (Vg 138) (k + 1) c = loQ (V0 136) (V0 138) k c + odQ i (V0 136 (k : Int)) c := by
        show loQ (V0 136) (Vg 138) k c + odQ (Vg 138 (k : Int)) (V0 136 (k : Int)) c = _
        rw [loQ_cg c k g138, gk]
      rw [lo1, g140]
      unfold odQ
      have lc := s4 c d0 d1
      by_cases z : c = i
      · rw [if_pos z, if_pos z.symm, z, ← ld.1]; exact ⟨rfl, by omega⟩
      · rw [if_neg z, if_neg (fun q => z q.symm)]; omega
  obtain ⟨F2, K2, K92, R2⟩ := G N (k + 1) R (by rw [w32_id (by omega) (by omega)]; omega) MG SG
  rw [g136, g137, g139, g72] at R2
  have x139 : V3 139 = V2 139 := funext (fun j => by rw [e3, up_c (by decide)])
  have x72 : ∀ j, V3 72 j = V2 72 j := fun j => by rw [e3, up_c (by decide)]
  have y136 : V2 136 (k : Int) = V0 136 (k : Int) := by rw [F2.1 136 _ (by decide) (by decide) (by decide) (by decide), g136]
  refine ⟨⟨fun c j n1 n2 n3 n4 => ?_, fun j n1 => ?_, fun j => ?_⟩, fun j j1 => ?_, fun j j1 => ?_, ?_⟩
  · rw [e3, up_c n4, F2.1 c j n1 n2 n3 n4, gc c n2 n4]; exact F.1 c j n1 n2 n3 n4
  · rw [x72, F2.2.1 j n1, g72]; exact F.2.1 j n1
  · rw [e3, up_p]
    by_cases z : j = i
    · rw [if_pos z, F2.2.2, g140, if_pos rfl, y136, z, show V0 140 i + V0 136 (k : Int) - V0 136 (k : Int) = V0 140 i by omega]
      exact w32_id (by omega) (by omega)
    · rw [if_neg z, F2.2.2, g140, if_neg z]
  · rw [e3, up_c (by decide), K2 j (by omega), eg, up_c (by decide), up_j (by omega)]; exact K j j1
  · rw [x139, K92 j j1, g139]; exact K9 j j1
  · rw [x139, x72]
    exact lpQ_t pmQ_id i0 i1 lt g138 gk RR R2
end
section
-- ===== mix: the reference =====
theorem e301_0 {n : Nat} {X : aX} {h : aH} {P : aH → Prop} {x1 x2 x3 x4 : Int32} {a1 a2 a3 a4 : Int} (S : wS h) (z1 : x1.toInt = a1) (z2 : x2.toInt = a2) (z3 : x3.toInt = a3) (z4 : x4.toInt = a4) (H : ((a1 ≠ vw h 72 87 → (∀ (w5 : Int32), w5.toInt = 0 → Pt n X zM301 104 [some (.ref 72), some (.int x1), some (.int x2), some (.int x3), some (.int x4), some (.int w5), none] [] h (qN P))) ∧ (a1 = vw h 72 87 → (∀ (w5 : Int32) (w6 : Int32), w5.toInt = 0 → w6.toInt = 0 → Pt n X zM301 14 [some (.ref 72), some (.int x1), some (.int x2), some (.int x3), some (.int x4), some (.int w5), some (.int w6)] [] h (qN P))))) : Pt (n + 1) X zM301 0 [some (.ref 72), some (.int x1), some (.int x2), some (.int x3), some (.int x4), none, none] [] h (qN P) := by
  refine pt_1 (fun n d => r_iloadn gx301_0 rfl) ?_
  refine pt_d (pt_1 (fun n d => r_aloadn gx301_1 rfl) ?_)
  refine pt_d (pt_getI (B := 87) gx301_2 S (fun v1 h1 => ?_))
  refine pt_d (pt_icmp_ne gx301_5 z1 h1 (fun e2 => ?_) (fun e2 => ?_))
  · have H := H.1 e2
    refine pt_d (pt_iconst gx301_101 (fun v3 h3 => ?_))
    refine pt_d (pt_1 (fun n d => r_istore (L' := [some (.ref 72), some (.int x1), some (.int x2), some (.int x3), some (.int x4), some (.int v3), none]) gx301_102 rfl rfl) ?_)
    exact H v3 h3
  · have H := H.2 e2
    refine pt_d (pt_iconst gx301_8 (fun v4 h4 => ?_))
    refine pt_d (pt_1 (fun n d => r_istore (L' := [some (.ref 72), some (.int x1), some (.int x2), some (.int x3), some (.int x4), some (.int v4), none]) gx301_9 rfl rfl) ?_)
    refine pt_d (pt_iconst gx301_11 (fun v5 h5 => ?_))
    refine pt_d (pt_1 (fun n d => r_istore (L' := [some (.ref 72), some (.int x1), some (.int x2), some (.int x3), some (.int x4), some (.int v4), some (.int v5)]) gx301_12 rfl rfl) ?_)
    exact H v4 v5 h4 h5
theorem e301_14 {n : Nat} {X : aX} {h : aH} {P : aH → Prop} {x1 x2 x3 x4 x5 x6 : Int32} {a1 a2 a3 a4 a5 a6 : Int} (S : wS h) (z1 : x1.toInt = a1) (z2 : x2.toInt = a2) (z3 : x3.toInt = a3) (z4 : x4.toInt = a4) (z5 : x5.toInt = a5) (z6 : x6.toInt = a6) (H : ((8 ≤ a6 → ((a5 < a4 → P h) ∧ (a4 ≤ a5 → ((vw h 72 94 < a2 → ∀ h_6 : aH, wS h_6 → vw h_6 = up (vw h) 72 94 a2 → (∀ (w6 : Int32), w6.toInt = 0 → Pt n X zM301 71 [some (.ref 72), some (.int x1), some (.int x2), some (.int x3), some (.int x4), some (.int x5), some (.int w6)] [] h_6 (qN P))) ∧ (a2 ≤ vw h 72 94 → P h))))) ∧ (a6 < 8 → (0 ≤ a6 → a6 < 8 → ((vw h 140 a6 ≤ 0 → (∀ (w5 : Int32) (w6 : Int32), w5.toInt = w32 (a5 + 0) → w6.toInt = w32 (a6 + 1) → Pt n X zM301 14 [some (.ref 72), some (.int x1), some (.int x2), some (.int x3), some (.int x4), some (.int w5), some (.int w6)] [] h (qN P))) ∧ (0 < vw h 140 a6 → (∀ (w5 : Int32) (w6 : Int32), w5.toInt = w32 (a5 + 1) → w6.toInt = w32 (a6 + 1) → Pt n X zM301 14 [some (.ref 72), some (.int x1), some (.int x2), some (.int x3), some (.int x4), some (.int w5), some (.int w6)] [] h (qN P)))))))) : Pt (n + 1) X zM301 14 [some (.ref 72), some (.int x1), some (.int x2), some (.int x3), some (.int x4), some (.int x5), some (.int x6)] [] h (qN P) := by
  refine pt_1 (fun n d => r_iload gx301_14 rfl) ?_
  refine pt_d (pt_bipush gx301_16 (fun v1 h1 => ?_))
  refine pt_d (pt_icmp_ge gx301_18 z6 h1 (fun e2 => ?_) (fun e2 => ?_))
  · have H := H.1 e2
    refine pt_d (pt_1 (fun n d => r_iload gx301_47 rfl) ?_)
    refine pt_d (pt_1 (fun n d => r_iload gx301_49 rfl) ?_)
    refine pt_d (pt_icmp_lt gx301_51 z5 z4 (fun e3 => ?_) (fun e3 => ?_))
    · have H := H.1 e3
      exact pt_d (pt_vret gx301_62 ⟨rfl, H⟩)
    · have H := H.2 e3
      refine pt_d (pt_1 (fun n d => r_iloadn gx301_54 rfl) ?_)
      refine pt_d (pt_1 (fun n d => r_aloadn gx301_55 rfl) ?_)
      refine pt_d (pt_getI (B := 94) gx301_56 S (fun v4 h4 => ?_))
      refine pt_d (pt_icmp_gt gx301_59 z2 h4 (fun e5 => ?_) (fun e5 => ?_))
      · have H := H.1 e5
        refine pt_d (pt_1 (fun n d => r_aloadn gx301_63 rfl) ?_)
        refine pt_d (pt_1 (fun n d => r_iloadn gx301_64 rfl) ?_)
        refine pt_d (pt_putI (B := 94) gx301_65 S z2 (fun h_6 S6 e6 => ?_))
        refine pt_d (pt_iconst gx301_68 (fun v7 h7 => ?_))
        refine pt_d (pt_1 (fun n d => r_istore (L' := [some (.ref 72), some (.int x1), some (.int x2), some (.int x3), some (.int x4), some (.int x5), some (.int v7)]) gx301_69 rfl rfl) ?_)
        have H := H h_6 S6 (by rw [e6])
        exact H v7 h7
      · have H := H.2 e5
        exact pt_d (pt_vret gx301_62 ⟨rfl, H⟩)
  · have H := H.2 e2
    refine pt_d (pt_1 (fun n d => r_iload gx301_21 rfl) ?_)
    refine pt_d (pt_1 (fun n d => r_aloadn gx301_23 rfl) ?_)
    refine pt_d (pt_getR gx301_24 S tr_72_92 ?_)
    refine pt_d (pt_1 (fun n d => r_iload gx301_27 rfl) ?_)
    refine pt_d (pt_iald (N' := 8) gx301_29 S tl_140 z6 (fun v9 p9 q9 h9 => ?_))
    have H := H p9 q9
    refine pt_d (pt_if_le gx301_30 h9 (fun e10 => ?_) (fun e10 => ?_))
    · have H := H.1 e10
      refine pt_d (pt_iconst gx301_37 (fun v11 h11 => ?_))
      refine pt_d (pt_iadd gx301_38 z5 h11 (fun v12 h12 => ?_))
      refine pt_d (pt_1 (fun n d => r_istore (L' := [some (.ref 72), some (.int x1), some (.int x2), some (.int x3), some (.int x4), some (.int v12), some (.int x6)]) gx301_39 rfl rfl) ?_)
      refine pt_d (pt_iinc (c := 1) gx301_41 rfl z6 (fun v13 h13 => ?_))
      show Pt _ _ _ _ [some (.ref 72), some (.int x1), some (.int x2), some (.int x3), some (.int x4), some (.int v12), some (.int v13)] [] _ _
      refine pt_d (pt_1 (fun n d => r_goto gx301_44) ?_)
      exact H v12 v13 h12 h13
    · have H := H.2 e10
      refine pt_d (pt_iconst gx301_33 (fun v14 h14 => ?_))
      refine pt_d (pt_1 (fun n d => r_goto gx301_34) ?_)
      refine pt_d (pt_iadd gx301_38 z5 h14 (fun v15 h15 => ?_))
      refine pt_d (pt_1 (fun n d => r_istore (L' := [some (.ref 72), some (.int x1), some (.int x2), some (.int x3), some (.int x4), some (.int v15), some (.int x6)]) gx301_39 rfl rfl) ?_)
      refine pt_d (pt_iinc (c := 1) gx301_41 rfl z6 (fun v16 h16 => ?_))
      show Pt _ _ _ _ [some (.ref 72), some (.int x1), some (.int x2), some (.int x3), some (.int x4), some (.int v15), some (.int v16)] [] _ _
      refine pt_d (pt_1 (fun n d => r_goto gx301_44) ?_)
      exact H v15 v16 h15 h16
theorem e301_71 {n : Nat} {X : aX} {h : aH} {P : aH → Prop} {x1 x2 x3 x4 x5 x6 : Int32} {a1 a2 a3 a4 a5 a6 : Int} (S : wS h) (z1 : x1.toInt = a1) (z2 : x2.toInt = a2) (z3 : x3.toInt = a3) (z4 : x4.toInt = a4) (z5 : x5.toInt = a5) (z6 : x6.toInt = a6) (H : ((vw h 72 87 ≤ a6 → P h) ∧ (a6 < vw h 72 87 → (0 ≤ a6 → a6 < 6 → ∀ h_6 : aH, wS h_6 → vw h_6 = up (vw h) 139 a6 (vw h 138 a6) → (∀ (w6 : Int32), w6.toInt = w32 (a6 + 1) → Pt n X zM301 71 [some (.ref 72), some (.int x1), some (.int x2), some (.int x3), some (.int x4), some (.int x5), some (.int w6)] [] h_6 (qN P)))))) : Pt (n + 1) X zM301 71 [some (.ref 72), some (.int x1), some (.int x2), some (.int x3), some (.int x4), some (.int x5), some (.int x6)] [] h (qN P) := by
  refine pt_1 (fun n d => r_iload gx301_71 rfl) ?_
  refine pt_d (pt_1 (fun n d => r_aloadn gx301_73 rfl) ?_)
  refine pt_d (pt_getI (B := 87) gx301_74 S (fun v1 h1 => ?_))
  refine pt_d (pt_icmp_ge gx301_77 z6 h1 (fun e2 => ?_) (fun e2 => ?_))
  · have H := H.1 e2
    exact pt_d (pt_vret gx301_100 ⟨rfl, H⟩)
  · have H := H.2 e2
    refine pt_d (pt_1 (fun n d => r_aloadn gx301_80 rfl) ?_)
    refine pt_d (pt_getR gx301_81 S tr_72_91 ?_)
    refine pt_d (pt_1 (fun n d => r_iload gx301_84 rfl) ?_)
    refine pt_d (pt_1 (fun n d => r_aloadn gx301_86 rfl) ?_)
    refine pt_d (pt_getR gx301_87 S tr_72_90 ?_)
    refine pt_d (pt_1 (fun n d => r_iload gx301_90 rfl) ?_)
    refine pt_d (pt_iald (N' := 6) gx301_92 S tl_138 z6 (fun v5 p5 q5 h5 => ?_))
    have H := H p5 q5
    refine pt_d (pt_iast (N' := 6) gx301_93 S tl_139 z6 h5 (fun h_6 S6 p6 q6 e6 => ?_))
    refine pt_d (pt_iinc (c := 1) gx301_94 rfl z6 (fun v7 h7 => ?_))
    show Pt _ _ _ _ [some (.ref 72), some (.int x1), some (.int x2), some (.int x3), some (.int x4), some (.int x5), some (.int v7)] [] _ _
    refine pt_d (pt_1 (fun n d => r_goto gx301_97) ?_)
    have H := H h_6 S6 (by rw [e6])
    exact H v7 h7
theorem e301_104 {n : Nat} {X : aX} {h : aH} {P : aH → Prop} {x1 x2 x3 x4 x5 : Int32} {a1 a2 a3 a4 a5 : Int} (S : wS h) (z1 : x1.toInt = a1) (z2 : x2.toInt = a2) (z3 : x3.toInt = a3) (z4 : x4.toInt = a4) (z5 : x5.toInt = a5) (K301 : ∀ {h : aH} {x1 x2 x3 x4 : Int32} {a1 a2 a3 a4 : Int}, wS h → x1.toInt = a1 → x2.toInt = a2 → x3.toInt = a3 → x4.toInt = a4 → Pt n X zM301 0 [some (.ref 72), some (.int x1), some (.int x2), some (.int x3), some (.int x4), none, none] [] h (qN (fun h' => wS h' ∧ G301 (vw h) a1 a2 a3 a4 (vw h')))) (H : ((8 ≤ a5 → P h) ∧ (a5 < 8 → (0 ≤ a5 → a5 < 8 → (0 ≤ a1 → a1 < 6 → ((w32 (100 * (w32 ((vw h 140 a5) + (vw h 136 a1)))) ≤ a3 → ∀ h_18 : aH, wS h_18 → vw h_18 = up (up (vw h) 138 a1 a5) 140 a5 (w32 ((vw h 140 a5) + (vw h 136 a1))) → ∀ (h_27 : aH), (wS h_27 ∧ G301 (vw h_18) (w32 (a1 + 1)) (w32 (a2 + (w32 ((vw h 136 a1) * (vw h 137 a5))))) a3 a4 (vw h_27)) → ∀ h_33 : aH, wS h_33 → vw h_33 = up (vw h_27) 140 a5 (w32 ((vw h_27 140 a5) - (vw h_27 136 a1))) → (∀ (w5 : Int32), w5.toInt = w32 (a5 + 1) → Pt n X zM301 104 [some (.ref 72), some (.int x1), some (.int x2), some (.int x3), some (.int x4), some (.int w5), none] [] h_33 (qN P))) ∧ (a3 < w32 (100 * (w32 ((vw h 140 a5) + (vw h 136 a1)))) → (∀ (w5 : Int32), w5.toInt = w32 (a5 + 1) → Pt n X zM301 104 [some (.ref 72), some (.int x1), some (.int x2), some (.int x3), some (.int x4), some (.int w5), none] [] h (qN P))))))))) : Pt (n + 1) X zM301 104 [some (.ref 72), some (.int x1), some (.int x2), some (.int x3), some (.int x4), some (.int x5), none] [] h (qN P) := by
  refine pt_1 (fun n d => r_iload gx301_104 rfl) ?_
  refine pt_d (pt_bipush gx301_106 (fun v1 h1 => ?_))
  refine pt_d (pt_icmp_ge gx301_108 z5 h1 (fun e2 => ?_) (fun e2 => ?_))
  · have H := H.1 e2
    exact pt_d (pt_vret gx301_207 ⟨rfl, H⟩)
  · have H := H.2 e2
    refine pt_d (pt_bipush gx301_111 (fun v3 h3 => ?_))
    refine pt_d (pt_1 (fun n d => r_aloadn gx301_113 rfl) ?_)
    refine pt_d (pt_getR gx301_114 S tr_72_92 ?_)
    refine pt_d (pt_1 (fun n d => r_iload gx301_117 rfl) ?_)
    refine pt_d (pt_iald (N' := 8) gx301_119 S tl_140 z5 (fun v5 p5 q5 h5 => ?_))
    have H := H p5 q5
    refine pt_d (pt_1 (fun n d => r_aloadn gx301_120 rfl) ?_)
    refine pt_d (pt_getR gx301_121 S tr_72_88 ?_)
    refine pt_d (pt_1 (fun n d => r_iloadn gx301_124 rfl) ?_)
    refine pt_d (pt_iald (N' := 6) gx301_125 S tl_136 z1 (fun v7 p7 q7 h7 => ?_))
    have H := H p7 q7
    refine pt_d (pt_iadd gx301_126 h5 h7 (fun v8 h8 => ?_))
    refine pt_d (pt_imul gx301_127 h3 h8 (fun v9 h9 => ?_))
    refine pt_d (pt_1 (fun n d => r_iloadn gx301_128 rfl) ?_)
    refine pt_d (pt_icmp_le gx301_129 h9 z3 (fun e10 => ?_) (fun e10 => ?_))
    · have H := H.1 e10
      refine pt_d (pt_1 (fun n d => r_aloadn gx301_135 rfl) ?_)
      refine pt_d (pt_getR gx301_136 S tr_72_90 ?_)
      refine pt_d (pt_1 (fun n d => r_iloadn gx301_139 rfl) ?_)
      refine pt_d (pt_1 (fun n d => r_iload gx301_140 rfl) ?_)
      refine pt_d (pt_iast (N' := 6) gx301_142 S tl_138 z1 z5 (fun h_12 S12 p12 q12 e12 => ?_))
      refine pt_d (pt_1 (fun n d => r_aloadn gx301_143 rfl) ?_)
      refine pt_d (pt_getR gx301_144 S12 tr_72_92 ?_)
      refine pt_d (pt_1 (fun n d => r_iload gx301_147 rfl) ?_)
      refine pt_d (pt_1 (fun n d => r_dup2 gx301_149 rfl) ?_)
      refine pt_d (pt_iald (N' := 8) gx301_150 S12 tl_140 z5 (fun v14 p14 q14 h14 => ?_))
      have h14 : v14.toInt = vw h 140 a5 := by rw [h14, e12, up_c (by decide)]
      refine pt_d (pt_1 (fun n d => r_aloadn gx301_151 rfl) ?_)
      refine pt_d (pt_getR gx301_152 S12 tr_72_88 ?_)
      refine pt_d (pt_1 (fun n d => r_iloadn gx301_155 rfl) ?_)
      refine pt_d (pt_iald (N' := 6) gx301_156 S12 tl_136 z1 (fun v16 p16 q16 h16 => ?_))
      have h16 : v16.toInt = vw h 136 a1 := by rw [h16, e12, up_c (by decide)]
      refine pt_d (pt_iadd gx301_157 h14 h16 (fun v17 h17 => ?_))
      refine pt_d (pt_iast (N' := 8) gx301_158 S12 tl_140 z5 h17 (fun h_18 S18 p18 q18 e18 => ?_))
      refine pt_d (pt_1 (fun n d => r_aloadn gx301_159 rfl) ?_)
      refine pt_d (pt_1 (fun n d => r_iloadn gx301_160 rfl) ?_)
      refine pt_d (pt_iconst gx301_161 (fun v19 h19 => ?_))
      refine pt_d (pt_iadd gx301_162 z1 h19 (fun v20 h20 => ?_))
      refine pt_d (pt_1 (fun n d => r_iloadn gx301_163 rfl) ?_)
      refine pt_d (pt_1 (fun n d => r_aloadn gx301_164 rfl) ?_)
      refine pt_d (pt_getR gx301_165 S18 tr_72_88 ?_)
      refine pt_d (pt_1 (fun n d => r_iloadn gx301_168 rfl) ?_)
      refine pt_d (pt_iald (N' := 6) gx301_169 S18 tl_136 z1 (fun v22 p22 q22 h22 => ?_))
      have h22 : v22.toInt = vw h 136 a1 := by rw [h22, e18, up_c (by decide), e12, up_c (by decide)]
      refine pt_d (pt_1 (fun n d => r_aloadn gx301_170 rfl) ?_)
      refine pt_d (pt_getR gx301_171 S18 tr_72_89 ?_)
      refine pt_d (pt_1 (fun n d => r_iload gx301_174 rfl) ?_)
      refine pt_d (pt_iald (N' := 8) gx301_176 S18 tl_137 z5 (fun v24 p24 q24 h24 => ?_))
      have h24 : v24.toInt = vw h 137 a5 := by rw [h24, e18, up_c (by decide), e12, up_c (by decide)]
      refine pt_d (pt_imul gx301_177 h22 h24 (fun v25 h25 => ?_))
      refine pt_d (pt_iadd gx301_178 z2 h25 (fun v26 h26 => ?_))
      refine pt_d (pt_1 (fun n d => r_iloadn gx301_179 rfl) ?_)
      refine pt_d (pt_1 (fun n d => r_iload gx301_180 rfl) ?_)
      have H := H h_18 S18 (by rw [e18, e12])
      refine pt_d (pt_virt (as := [.int v20, .int v26, .int x3, .int x4]) (r := []) gx301_182 rfl (show zmt[301]? = some zM301 from rfl) rfl rfl rfl rfl (K301 S18 h20 h26 z3 z4) (kqN (fun h_27 P27 => ?_)))
      have S27 := P27.1
      have H := H h_27 P27
      show Pt _ _ _ 185 _ [] _ _
      refine pt_d (pt_1 (fun n d => r_aloadn gx301_185 rfl) ?_)
      refine pt_d (pt_getR gx301_186 S27 tr_72_92 ?_)
      refine pt_d (pt_1 (fun n d => r_iload gx301_189 rfl) ?_)
      refine pt_d (pt_1 (fun n d => r_dup2 gx301_191 rfl) ?_)
      refine pt_d (pt_iald (N' := 8) gx301_192 S27 tl_140 z5 (fun v29 p29 q29 h29 => ?_))
      refine pt_d (pt_1 (fun n d => r_aloadn gx301_193 rfl) ?_)
      refine pt_d (pt_getR gx301_194 S27 tr_72_88 ?_)
      refine pt_d (pt_1 (fun n d => r_iloadn gx301_197 rfl) ?_)
      refine pt_d (pt_iald (N' := 6) gx301_198 S27 tl_136 z1 (fun v31 p31 q31 h31 => ?_))
      refine pt_d (pt_isub gx301_199 h29 h31 (fun v32 h32 => ?_))
      refine pt_d (pt_iast (N' := 8) gx301_200 S27 tl_140 z5 h32 (fun h_33 S33 p33 q33 e33 => ?_))
      refine pt_d (pt_iinc (c := 1) gx301_201 rfl z5 (fun v34 h34 => ?_))
      show Pt _ _ _ _ [some (.ref 72), some (.int x1), some (.int x2), some (.int x3), some (.int x4), some (.int v34), none] [] _ _
      refine pt_d (pt_1 (fun n d => r_goto gx301_204) ?_)
      have H := H h_33 S33 (by rw [e33])
      exact H v34 h34
    · have H := H.2 e10
      refine pt_d (pt_1 (fun n d => r_goto gx301_132) ?_)
      refine pt_d (pt_iinc (c := 1) gx301_201 rfl z5 (fun v35 h35 => ?_))
      show Pt _ _ _ _ [some (.ref 72), some (.int x1), some (.int x2), some (.int x3), some (.int x4), some (.int v35), none] [] _ _
      refine pt_d (pt_1 (fun n d => r_goto gx301_204) ?_)
      exact H v35 h35
abbrev E301 (n : Nat) (X : aX) : Prop := ∀ {h : aH} {x1 x2 x3 x4 : Int32} {N k : Nat} {R : Int}, wS h → x1.toInt = (k : Int) → PN (vw h) N → MS (vw h) N k x2.toInt x3.toInt R → Pt n X zM301 0 [some (.ref 72), some (.int x1), some (.int x2), some (.int x3), some (.int x4), none, none] [] h (qN (fun h' => wS h' ∧ R301 (vw h) N k R x4.toInt (vw h')))
abbrev L301a (n : Nat) (X : aX) : Prop := ∀ {h : aH} {x1 x2 x3 x4 x5 x6 : Int32} {N : Nat} {R : Int} (j : Nat), wS h → PN (vw h) N → MS (vw h) N N x2.toInt x3.toInt R → x6.toInt + (j : Int) = 8 → 0 ≤ x6.toInt → 0 ≤ x5.toInt → x5.toInt ≤ x6.toInt → x5.toInt + tlQ (unQ (vw h 136) (vw h 138) N) j x6.toInt = usQ (vw h 136) (vw h 138) N → Pt n X zM301 14 [some (.ref 72), some (.int x1), some (.int x2), some (.int x3), some (.int x4), some (.int x5), some (.int x6)] [] h (qN (fun h' => wS h' ∧ R301 (vw h) N N R x4.toInt (vw h')))
abbrev L301b (n : Nat) (X : aX) : Prop := ∀ {V0 : vS} {h : aH} {x1 x2 x3 x4 x5 x6 : Int32} {N : Nat} {R : Int}, wS h → PN V0 N → MS V0 N N x2.toInt x3.toInt R → x4.toInt ≤ usQ (V0 136) (V0 138) N → V0 72 94 < x2.toInt → 0 ≤ x6.toInt → x6.toInt ≤ (N : Int) → (∀ (c : Nat) j, c ≠ 72 → c ≠ 139 → vw h c j = V0 c j) → (∀ j, j ≠ 94 → vw h 72 j = V0 72 j) → vw h 72 94 = x2.toInt → (∀ j, 0 ≤ j → j < x6.toInt → vw h 139 j = V0 138 j) → (∀ j, (N : Int) ≤ j → vw h 139 j = V0 139 j) → Pt n X zM301 71 [some (.ref 72), some (.int x1), some (.int x2), some (.int x3), some (.int x4), some (.int x5), some (.int x6)] [] h (qN (fun h' => wS h' ∧ R301 V0 N N R x4.toInt (vw h')))
abbrev L301c (n : Nat) (X : aX) : Prop := ∀ {V0 : vS} {h : aH} {x1 x2 x3 x4 x5 : Int32} {N k : Nat} {R : Int}, wS h → x1.toInt = (k : Int) → k < N → PN V0 N → MS V0 N k x2.toInt x3.toInt R → 0 ≤ x5.toInt → x5.toInt ≤ 8 → LNq V0 (vw h) N k R x4.toInt x5.toInt → Pt n X zM301 104 [some (.ref 72), some (.int x1), some (.int x2), some (.int x3), some (.int x4), some (.int x5), none] [] h (qN (fun h' => wS h' ∧ R301 V0 N k R x4.toInt (vw h')))
theorem g_301 {n : Nat} {X : aX} (K : E301 n X) {h : aH} {x1 x2 x3 x4 : Int32} {a1 a2 a3 a4 : Int} (S : wS h) (z1 : x1.toInt = a1) (z2 : x2.toInt = a2) (z3 : x3.toInt = a3) (z4 : x4.toInt = a4) : Pt n X zM301 0 [some (.ref 72), some (.int x1), some (.int x2), some (.int x3), some (.int x4), none, none] [] h (qN (fun h' => wS h' ∧ G301 (vw h) a1 a2 a3 a4 (vw h'))) := by
  intro m hm d v h' e
  obtain ⟨ev, Sv, -⟩ := c_301 S z1 z2 z3 z4 m hm d v h' e
  refine ⟨ev, Sv, fun N k R e1 M N0 => ?_⟩
  subst z2 z3 z4
  exact (K S (z1.trans e1) M N0 m hm d v h' e).2.2
theorem l_301k {X : aX} : ∀ n : Nat, E301 n X ∧ L301a n X ∧ L301b n X ∧ L301c n X := by
  intro n
  induction n with
  | zero => exact ⟨fun _ _ _ _ => pt_z, fun _ _ _ _ _ _ _ _ _ => pt_z, fun _ _ _ _ _ _ _ _ _ _ _ _ => pt_z, fun _ _ _ _ _ _ _ _ => pt_z⟩
  | succ n ih =>
    obtain ⟨ih0, iha, ihb, ihc⟩ := ih
    refine And.intro ?_ (And.intro ?_ (And.intro ?_ ?_))
    · intro h x1 x2 x3 x4 N k R S z1 M N0
      refine e301_0 S z1 rfl rfl rfl ⟨fun c w5 g5 => ihc S z1 ?_ M N0 (by omega) (by omega) ⟨f301_r _, fun _ _ => rfl, fun _ _ => rfl, ?_⟩, fun c w5 w6 g5 g6 => ?_⟩
      · have := M.1; have := N0.1; omega
      · rw [g5]
        exact lpQ_0 (fun c a b => ⟨a, b⟩) (by have := M.1; have := N0.1; omega)
      · have kN : k = N := by have := M.1; omega
        subst kN
        exact iha 8 S M N0 (by omega) (by omega) (by omega) (by omega) (by rw [g5, g6, tlQ_8, Int.zero_add]; rfl)
    · intro h x1 x2 x3 x4 x5 x6 N R j S M N0 e6 n6 n5 b5 eu
      have N0' := N0
      obtain ⟨s1, s2, s3, s4, s5, s6, s7, s8⟩ := N0'
      refine e301_14 S rfl rfl rfl rfl rfl rfl ⟨fun e => ?_, fun e p0 p1 => ?_⟩
      · obtain rfl : j = 0 := by omega
        have eu : x5.toInt + 0 = usQ (vw h 136) (vw h 138) N := eu
        refine ⟨fun c => ⟨S, f301_r _, fun _ _ => rfl, fun _ _ => rfl, ndQ_u M.2.2.1 (Nat.le_refl _) (by omega)⟩, fun c => ⟨fun d g Sg eg w6 g6 => ?_, fun d => ⟨S, f301_r _, fun _ _ => rfl, fun _ _ => rfl, ndQ_w (by rw [← s2]; exact d)⟩⟩⟩
        exact ihb (V0 := vw h) Sg M N0 (by omega) d (by omega) (by omega) (fun c j q1 q2 => by rw [eg, up_c q1]) (fun j q => by rw [eg, up_j q]) (by rw [eg, up_s]) (fun j j0 j1 => by omega) (fun j j0 => by rw [eg, up_c (by decide)])
      · obtain ⟨j', rfl⟩ : ∃ j', j = j' + 1 := ⟨j - 1, by omega⟩
        have eu : x5.toInt + (unQ (vw h 136) (vw h 138) N x6.toInt + tlQ (unQ (vw h 136) (vw h 138) N) j' (x6.toInt + 1)) = usQ (vw h 136) (vw h 138) N := eu
        have ld := s4 x6.toInt n6 e
        have un : unQ (vw h 136) (vw h 138) N x6.toInt = ucQ (vw h 140 x6.toInt) := by rw [ld.1]; rfl
        refine ⟨fun c w5 w6 g5 g6 => ?_, fun c w5 w6 g5 g6 => ?_⟩
        · have uz : ucQ (vw h 140 x6.toInt) = 0 := if_neg (by omega)
          rw [w32_id (by omega) (by omega)] at g5 g6
          exact iha j' S M N0 (by omega) (by omega) (by omega) (by omega) (by rw [g5, g6]; omega)
        · have uz : ucQ (vw h 140 x6.toInt) = 1 := if_pos c
          rw [w32_id (by omega) (by omega)] at g5 g6
          exact iha j' S M N0 (by omega) (by omega) (by omega) (by omega) (by rw [g5, g6]; omega)
    · intro V0 h x1 x2 x3 x4 x5 x6 N R S M N0 hq hb n6 l6 C1 C2 C3 C4 C5
      have N0' := N0
      obtain ⟨s1, s2, s3, s4, s5, s6, s7, s8⟩ := N0'
      have e87 : vw h 72 87 = (N : Int) := (C2 87 (by decide)).trans M.1
      refine e301_71 S rfl rfl rfl rfl rfl rfl ⟨fun e => ⟨S, ⟨fun c j q1 q2 q3 q4 => C1 c j q1 q3, C2, fun j => C1 140 j (by decide) (by decide)⟩, fun j _ => C1 138 j (by decide) (by decide), C5, ?_⟩, fun e p0 p1 g Sg eg w6 g6 => ?_⟩
      · rw [C3, s2]
        exact ndQ_e s3 (fun c a b => by rw [← (s4 c a b).1]; exact (s4 c a b).2) hq (by rw [← s2]; exact hb) (fun j j0 j1 => C4 j j0 (by omega))
      · rw [w32_id (by omega) (by omega)] at g6
        refine ihb Sg M N0 hq hb (by omega) (by omega) (fun c j q1 q2 => by rw [eg, up_c q2]; exact C1 c j q1 q2) (fun j q => by rw [eg, up_c (by decide)]; exact C2 j q) (by rw [eg, up_c (by decide)]; exact C3) (fun j j0 j1 => ?_) (fun j j0 => by rw [eg, up_j (by omega)]; exact C5 j j0)
        rw [eg, up_p]
        by_cases z : j = x6.toInt
        · rw [if_pos z, z]; exact C1 138 _ (by decide) (by decide)
        · rw [if_neg z]; exact C4 j j0 (by omega)
    · intro V0 h x1 x2 x3 x4 x5 N k R S z1 kN M N0 l0 l8 L
      have N0' := N0
      obtain ⟨s1, s2, s3, s4, s5, s6, s7, s8⟩ := N0'
      have nx : x5.toInt < 8 → w32 (x5.toInt + 1) = x5.toInt + 1 := fun q => w32_id (by omega) (by omega)
      refine e301_104 S z1 rfl rfl rfl rfl (fun S1 g1 g2 g3 g4 => g_301 ih0 S1 g1 g2 g3 g4) ⟨fun e => ⟨S, L.1, L.2.1, L.2.2.1, ?_⟩, fun e p0 p1 p2 p3 => ⟨fun f g Sg eg g2 q2 g3 S3 e3 w5 g5 => ?_, fun f w5 g5 => ?_⟩⟩
      · have R := L.2.2.2
        rw [show x5.toInt = 8 by omega] at R
        exact lpQ_8 (fun c a b => ⟨a, b⟩) kN R
      · rw [nx e] at g5
        refine ihc S3 z1 kN M N0 (by omega) (by omega) ?_
        rw [g5]
        exact st301 M N0 kN l0 e L f eg q2.2 e3
      · rw [nx e] at g5
        refine ihc S z1 kN M N0 (by omega) (by omega) ⟨L.1, L.2.1, L.2.2.1, ?_⟩
        rw [g5]
        have av := M.2.2.1 (k : Int) (by omega) (by omega)
        have ld := s4 x5.toInt l0 e
        have l140 := L.1.2.2 x5.toInt
        have ln := loQ_n (ar := V0 136) (f := V0 138) x5.toInt k (arQ_m M.2.2.1 s1)
        have q136 := f301_q L.1 (c := 136) (Or.inl rfl)
        rw [q136, l140, w32_id (z := V0 140 x5.toInt + V0 136 (k : Int)) (by omega) (by omega), w32_id (by omega) (by omega)] at f
        exact lpQ_f M.2.2.1 pmQ_id l0 e kN (by show R < loQ (V0 136) (V0 138) k x5.toInt + V0 136 (k : Int); omega) L.2.2.2
theorem c_301k {n : Nat} {X : aX} {h : aH} {x1 x2 x3 x4 : Int32} {a1 a2 a3 a4 : Int} (S : wS h) (z1 : x1.toInt = a1) (z2 : x2.toInt = a2) (z3 : x3.toInt = a3) (z4 : x4.toInt = a4) : Pt n X zM301 0 [some (.ref 72), some (.int x1), some (.int x2), some (.int x3), some (.int x4), none, none] [] h (qN (fun h' => wS h' ∧ G301 (vw h) a1 a2 a3 a4 (vw h'))) := g_301 (l_301k n).1 S z1 z2 z3 z4
end
section
theorem e302_61 {n : Nat} {X : aX} {h : aH} {P : Int → aH → Prop} {x1 x2 x3 x4 : Int32} {a1 a2 a3 a4 : Int} (S : wS h) (z1 : x1.toInt = a1) (z2 : x2.toInt = a2) (z3 : x3.toInt = a3) (z4 : x4.toInt = a4) (H : ((8 ≤ a4 → ∀ h_4 : aH, wS h_4 → vw h_4 = up (vw h) 72 94 (-1) → ∀ (h_8 : aH), (wS h_8 ∧ G301 (vw h_4) 0 0 (w32 (a1 * a3)) a2 (vw h_8)) → ((0 ≤ vw h_8 72 94 → ∀ h_14 : aH, wS h_14 → vw h_14 = up (up (vw h_8) 72 87 0) 72 93 (vw h_8 72 87) → P (vw h_8 72 94) h_14) ∧ (vw h_8 72 94 < 0 → ∀ h_11 : aH, wS h_11 → vw h_11 = up (vw h_8) 72 87 0 → P (-2) h_11))) ∧ (a4 < 8 → (0 ≤ a4 → a4 < 8 → ∀ h_19 : aH, wS h_19 → vw h_19 = up (vw h) 140 a4 0 → (∀ (w4 : Int32), w4.toInt = w32 (a4 + 1) → Pt n X zM302 61 [some (.ref 72), some (.int x1), some (.int x2), some (.int x3), some (.int w4)] [] h_19 (qI P)))))) : Pt (n + 1) X zM302 61 [some (.ref 72), some (.int x1), some (.int x2), some (.int x3), some (.int x4)] [] h (qI P) := by
  refine pt_1 (fun n d => r_iload gx302_61 rfl) ?_
  refine pt_d (pt_bipush gx302_63 (fun v1 h1 => ?_))
  refine pt_d (pt_icmp_ge gx302_65 z4 h1 (fun e2 => ?_) (fun e2 => ?_))
  · have H := H.1 e2
    refine pt_d (pt_1 (fun n d => r_aloadn gx302_82 rfl) ?_)
    refine pt_d (pt_iconst gx302_83 (fun v3 h3 => ?_))
    refine pt_d (pt_putI (B := 94) gx302_84 S h3 (fun h_4 S4 e4 => ?_))
    refine pt_d (pt_1 (fun n d => r_aloadn gx302_87 rfl) ?_)
    refine pt_d (pt_iconst gx302_88 (fun v5 h5 => ?_))
    refine pt_d (pt_iconst gx302_89 (fun v6 h6 => ?_))
    refine pt_d (pt_1 (fun n d => r_iloadn gx302_90 rfl) ?_)
    refine pt_d (pt_1 (fun n d => r_iloadn gx302_91 rfl) ?_)
    refine pt_d (pt_imul gx302_92 z1 z3 (fun v7 h7 => ?_))
    refine pt_d (pt_1 (fun n d => r_iloadn gx302_93 rfl) ?_)
    have H := H h_4 S4 (by rw [e4])
    refine pt_d (pt_virt (as := [.int v5, .int v6, .int v7, .int x2]) (r := []) gx302_94 rfl (show zmt[301]? = some zM301 from rfl) rfl rfl rfl rfl (c_301k S4 h5 h6 h7 z2) (kqN (fun h_8 P8 => ?_)))
    have S8 := P8.1
    have H := H h_8 P8
    show Pt _ _ _ 97 _ [] _ _
    refine pt_d (pt_1 (fun n d => r_aloadn gx302_97 rfl) ?_)
    refine pt_d (pt_getI (B := 87) gx302_98 S8 (fun v9 h9 => ?_))
    refine pt_d (pt_1 (fun n d => r_istore (L' := [some (.ref 72), some (.int x1), some (.int x2), some (.int x3), some (.int v9)]) gx302_101 rfl rfl) ?_)
    refine pt_d (pt_1 (fun n d => r_aloadn gx302_103 rfl) ?_)
    refine pt_d (pt_iconst gx302_104 (fun v10 h10 => ?_))
    refine pt_d (pt_putI (B := 87) gx302_105 S8 h10 (fun h_11 S11 e11 => ?_))
    refine pt_d (pt_1 (fun n d => r_aloadn gx302_108 rfl) ?_)
    refine pt_d (pt_getI (B := 94) gx302_109 S11 (fun v12 h12 => ?_))
    have h12 : v12.toInt = vw h_8 72 94 := by rw [h12, e11, up_j (by decide)]
    refine pt_d (pt_if_ge gx302_112 h12 (fun e13 => ?_) (fun e13 => ?_))
    · have H := H.1 e13
      refine pt_d (pt_1 (fun n d => r_aloadn gx302_118 rfl) ?_)
      refine pt_d (pt_1 (fun n d => r_iload gx302_119 rfl) ?_)
      refine pt_d (pt_putI (B := 93) gx302_121 S11 h9 (fun h_14 S14 e14 => ?_))
      refine pt_d (pt_1 (fun n d => r_aloadn gx302_124 rfl) ?_)
      refine pt_d (pt_getI (B := 94) gx302_125 S14 (fun v15 h15 => ?_))
      have h15 : v15.toInt = vw h_8 72 94 := by rw [h15, e14, up_j (by decide), e11, up_j (by decide)]
      have H := H h_14 S14 (by rw [e14, e11])
      exact pt_d (pt_iret gx302_128 ⟨_, rfl, by rw [h15]; exact H⟩)
    · have H := H.2 e13
      refine pt_d (pt_bipush gx302_115 (fun v16 h16 => ?_))
      have H := H h_11 S11 (by rw [e11])
      exact pt_d (pt_iret gx302_117 ⟨_, rfl, by rw [h16]; exact H⟩)
  · have H := H.2 e2
    refine pt_d (pt_1 (fun n d => r_aloadn gx302_68 rfl) ?_)
    refine pt_d (pt_getR gx302_69 S tr_72_92 ?_)
    refine pt_d (pt_1 (fun n d => r_iload gx302_72 rfl) ?_)
    refine pt_d (pt_iconst gx302_74 (fun v18 h18 => ?_))
    refine pt_d (pt_iast (N' := 8) gx302_75 S tl_140 z4 h18 (fun h_19 S19 p19 q19 e19 => ?_))
    have H := H p19 q19
    refine pt_d (pt_iinc (c := 1) gx302_76 rfl z4 (fun v20 h20 => ?_))
    show Pt _ _ _ _ [some (.ref 72), some (.int x1), some (.int x2), some (.int x3), some (.int v20)] [] _ _
    refine pt_d (pt_1 (fun n d => r_goto gx302_79) ?_)
    have H := H h_19 S19 (by rw [e19])
    exact H v20 h20
def G302 (V : vS) (a b y : Int) (V' : vS) : Prop := ∀ (N : Nat) (R : Int), PN V N → 0 ≤ R → R ≤ 3456 → 100 * R ≤ smQ (V 136) N * a → smQ (V 136) N * a < 100 * R + 100 → 1 ≤ a → a ≤ 100 → ∃ m, rsQ (V 136) (V 137) (fun t => t) N (feQ (V 136) N R b) (-1) (V 139) m (V' 139) ∧ (∀ j, (N : Int) ≤ j → V' 139 j = V 139 j) ∧ ((0 ≤ m ∧ y = m ∧ V' 72 93 = (N : Int)) ∨ (m < 0 ∧ y = -2 ∧ V' 72 93 = V 72 93))
theorem l_302k {X : aX} {N : Nat} {R : Int} {V : vS} {x1 x2 : Int32} (M : PN V N) (r0 : 0 ≤ R) (r1 : R ≤ 3456) (r2 : 100 * R ≤ smQ (V 136) N * x1.toInt) (r3 : smQ (V 136) N * x1.toInt < 100 * R + 100) (a0 : 1 ≤ x1.toInt) (a1 : x1.toInt ≤ 100) : ∀ n : Nat, (∀ (h : aH) (x3 x4 : Int32) (k : Nat), wS h → vw h = V → x3.toInt = smQ (V 136) k → x4.toInt = (k : Int) → k ≤ N → Pt n X zM302 33 [some (.ref 72), some (.int x1), some (.int x2), some (.int x3), some (.int x4)] [] h (qI (fun y h' => vw h' 72 87 = 0 ∧ ∃ m, rsQ (V 136) (V 137) (fun t => t) N (feQ (V 136) N R x2.toInt) (-1) (V 139) m (vw h' 139) ∧ (∀ j, (N : Int) ≤ j → vw h' 139 j = V 139 j) ∧ ((0 ≤ m ∧ y = m ∧ vw h' 72 93 = (N : Int)) ∨ (m < 0 ∧ y = -2 ∧ vw h' 72 93 = V 72 93))))) ∧ (∀ (h : aH) (x3 x4 : Int32), wS h → (∀ (c : Nat) j, c ≠ 140 → vw h c j = V c j) → x3.toInt = smQ (V 136) N → 0 ≤ x4.toInt → x4.toInt ≤ 8 → (∀ j, 0 ≤ j → j < x4.toInt → vw h 140 j = 0) → Pt n X zM302 61 [some (.ref 72), some (.int x1), some (.int x2), some (.int x3), some (.int x4)] [] h (qI (fun y h' => vw h' 72 87 = 0 ∧ ∃ m, rsQ (V 136) (V 137) (fun t => t) N (feQ (V 136) N R x2.toInt) (-1) (V 139) m (vw h' 139) ∧ (∀ j, (N : Int) ≤ j → vw h' 139 j = V 139 j) ∧ ((0 ≤ m ∧ y = m ∧ vw h' 72 93 = (N : Int)) ∨ (m < 0 ∧ y = -2 ∧ vw h' 72 93 = V 72 93))))) := by
  have M' := M
  obtain ⟨n1, n2, A, W⟩ := M'
  have sN := smQ_b N A
  have mb := mul_b (s := smQ (V 136) N) (by omega) (by omega) a0 a1
  intro n
  induction n with
  | zero => exact ⟨fun _ _ _ _ _ _ _ _ _ => pt_z, fun _ _ _ _ _ _ _ _ _ => pt_z⟩
  | succ n ih =>
    obtain ⟨i33, i61⟩ := ih
    refine And.intro ?_ ?_
    · intro h x3 x4 k S eV e3 e4 kN
      have sk := smQ_b k (arQ_m A kN)
      refine d302_33 S rfl rfl rfl rfl ⟨fun e w4 g4 => ?_, fun e p0 p1 w3 w4 g3 g4 => ?_⟩
      · rw [eV] at e
        have kk : k = N := by omega
        exact i61 h x3 w4 S (fun c j _ => by rw [eV]) (by rw [e3, kk]) (by omega) (by omega) (fun j j0 j1 => by omega)
      · rw [eV] at e g3
        have av := A (k : Int) (by omega) (by omega)
        rw [e4] at g3
        rw [w32_id (by omega) (by omega)] at g3 g4
        exact i33 h w3 w4 (k + 1) S eV (by rw [g3, e3]; rfl) (by omega) (by omega)
    · intro h x3 x4 S F e3 n4 l4 Z
      refine e302_61 S rfl rfl rfl rfl ⟨fun e g Sg eg g2 p2 => ?_, fun e p0 p1 g Sg eg w4 g4 => ?_⟩
      · have gc : ∀ c : Nat, c ≠ 72 → c ≠ 140 → vw g c = V c := fun c q1 q2 => funext (fun j => by rw [eg, up_c q1]; exact F c j q2)
        have g7 : ∀ j, j ≠ 94 → vw g 72 j = V 72 j := fun j q => by rw [eg, up_j q]; exact F 72 j (by decide)
        have g94 : vw g 72 94 = -1 := by rw [eg, up_s]
        have MG : PN (vw g) N := by
          unfold PN
          rw [g7 87 (by decide), gc 136 (by decide) (by decide), gc 137 (by decide) (by decide)]
          exact M
        have wl : w32 (x1.toInt * x3.toInt) = smQ (V 136) N * x1.toInt := by rw [e3, Int.mul_comm]; exact w32_id (by omega) (by omega)
        have SG : MS (vw g) N 0 0 (w32 (x1.toInt * x3.toInt)) R := by
          rw [wl]
          refine ⟨Nat.zero_le _, rfl, fun j j0 j1 => by omega, fun c c0 c1 => ?_, r0, r1, r2, r3⟩
          have : vw g 140 c = 0 := by rw [eg, up_c (by decide)]; exact Z c c0 (by omega)
          rw [this]
          exact ⟨rfl, r0⟩
        obtain ⟨F2, K2, K9, R2⟩ := p2.2 N 0 R rfl MG SG
        have R2 := ndQ_0 R2
        rw [gc 136 (by decide) (by decide), gc 137 (by decide) (by decide), gc 139 (by decide) (by decide), g94] at R2
        rw [gc 139 (by decide) (by decide)] at K9
        have e87 : vw g2 72 87 = (N : Int) := by rw [F2.2.1 87 (by decide), g7 87 (by decide), n1]
        refine ⟨fun q h3 S3 eq => ⟨by rw [eq, up_j (by decide), up_s], vw g2 72 94, ?_, ?_, Or.inl ⟨q, rfl, by rw [eq, up_s, e87]⟩⟩, fun q h3 S3 eq => ⟨by rw [eq, up_s], vw g2 72 94, ?_, ?_, Or.inr ⟨q, rfl, by rw [eq, up_j (by decide), F2.2.1 93 (by decide), g7 93 (by decide)]⟩⟩⟩
        · rw [show vw h3 139 = vw g2 139 from funext (fun j => by rw [eq, up_c (by decide), up_c (by decide)])]; exact R2
        · intro j j0; rw [eq, up_c (by decide), up_c (by decide)]; exact K9 j j0
        · rw [show vw h3 139 = vw g2 139 from funext (fun j => by rw [eq, up_c (by decide)])]; exact R2
        · intro j j0; rw [eq, up_c (by decide)]; exact K9 j j0
      · rw [w32_id (by omega) (by omega)] at g4
        refine i61 g x3 w4 Sg (fun c j q => by rw [eg, up_c q]; exact F c j q) e3 (by omega) (by omega) (fun j j0 j1 => ?_)
        rw [eg, up_p]
        by_cases z : j = x4.toInt
        · rw [if_pos z]
        · rw [if_neg z]; exact Z j j0 (by omega)
def R302k (V : vS) (a b y : Int) (V' : vS) : Prop := (bad302 V a b ∧ y = -1 ∧ V' = V) ∨ (¬ bad302 V a b ∧ V' 72 87 = 0 ∧ G302 V a b y V')
theorem c_302k {n : Nat} {X : aX} {h : aH} {x1 x2 : Int32} {a1 a2 : Int} (S : wS h) (z1 : x1.toInt = a1) (z2 : x2.toInt = a2) : Pt n X zM302 0 [some (.ref 72), some (.int x1), some (.int x2), none, none] [] h (qI (fun y h' => R302k (vw h) a1 a2 y (vw h'))) := by
  refine pt_d (d302_0 S z1 z2 ⟨fun e => Or.inl ⟨Or.inr (Or.inr e), rfl, rfl⟩, fun e => ⟨fun e2 => Or.inl ⟨Or.inl e2, rfl, rfl⟩, fun e2 => ⟨fun e3 w3 w4 g3 g4 => ?_, fun e3 => Or.inl ⟨Or.inr (Or.inl e3), rfl, rfl⟩⟩⟩⟩)
  subst z1 z2
  have nb : ¬ bad302 (vw h) x1.toInt x2.toInt := fun z => z.elim (fun z => z e2) (fun z => z.elim (fun z => z e3) e)
  intro m hm d v h' ex
  obtain ⟨y, ev, r⟩ := (l_302 n).1 h x1 x2 w3 w4 S m hm d v h' ex
  refine ⟨y, ev, Or.inr ⟨nb, r, fun N R M r0 r1 r2 r3 a0 a1 => ?_⟩⟩
  obtain ⟨y', ev', r'⟩ := (l_302k (x2 := x2) M r0 r1 r2 r3 a0 a1 n).1 h w3 w4 0 S rfl g3 g4 (Nat.zero_le _) m hm d v h' ex
  have : y = y' := by rw [ev] at ev'; injection ev' with q; injection q with q
  subst this
  exact r'.2
end

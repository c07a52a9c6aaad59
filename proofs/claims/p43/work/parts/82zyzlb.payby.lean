-- ===== what a farm is paid: the reference =====
theorem d277_0 {n : Nat} {X : aX} {h : aH} {P : Int → aH → Prop} {x1 x2 x3 x4 : Int32} {a1 a2 a3 a4 : Int} (S : wS h) (z1 : x1.toInt = a1) (z2 : x2.toInt = a2) (z3 : x3.toInt = a3) (z4 : x4.toInt = a4) (H : ((q239 (vw h) ∧ (0 ≤ vw h 72 2 ∧ vw h 72 2 ≤ 150) ∧ vw h 72 14 ≤ 200 ∧ 0 ≤ a2 ∧ a2 ≤ 9) ∧ ∀ (h_1 : aH), (wS h_1 ∧ R272 (vw h) a1 a2 a3 (vw h_1)) → (0 ≤ a1 → a1 < 150 → ((a4 < 0 → ((0 ≤ vw h_1 72 55 ∧ vw h_1 72 55 ≤ 16) ∧ ∀ (y16 : Int) (h_16 : aH), (wS h_16 ∧ h_16 = h_1 ∧ R265 (vw h_1) (w32 (10 * (vw h_1 74 a1))) a2 a3 y16) → ((0 ≤ y16 → ((pre269 (vw h_16) y16) ∧ ∀ (y18 : Int) (h_18 : aH), (wS h_18 ∧ R269 (vw h_16) y16 y18 (vw h_18)) → ((p275 (vw h_18)) ∧ ∀ (y22 : Int) (h_22 : aH), (wS h_22 ∧ R275 (vw h_18) a1 a2 a3 (min (vw h_1 124 3) (w32 (10 * (vw h_1 124 9)))) y22 (vw h_22)) → (∀ (w5 : Int32) (w6 : Int32) (w7 : Int32) (w8 : Int64) (w10 : Int32), w5.toInt = w32 (10 * (vw h_1 74 a1)) → w6.toInt = min (vw h_1 124 3) (w32 (10 * (vw h_1 124 9))) → w7.toInt = y16 → w8.toInt = y18 → w10.toInt = hel (w64 ((w64 (y18 * (min (vw h_1 124 3) (w32 (10 * (vw h_1 124 9)))))) + y22)) → Pt n X zM277 98 [some (.ref 72), some (.int x1), some (.int x2), some (.int x3), some (.int x4), some (.int w5), some (.int w6), some (.int w7), some (.long w8), none, some (.int w10), none, none] [] h_22 (qI P))))) ∧ (y16 < 0 → ((p275 (vw h_16)) ∧ ∀ (y28 : Int) (h_28 : aH), (wS h_28 ∧ R275 (vw h_16) a1 a2 a3 (min (vw h_1 124 3) (w32 (10 * (vw h_1 124 9)))) y28 (vw h_28)) → (∀ (w5 : Int32) (w6 : Int32) (w7 : Int32) (w8 : Int64) (w10 : Int32), w5.toInt = w32 (10 * (vw h_1 74 a1)) → w6.toInt = min (vw h_1 124 3) (w32 (10 * (vw h_1 124 9))) → w7.toInt = y16 → w8.toInt = 1 → w10.toInt = hel (w64 ((w64 (1 * (min (vw h_1 124 3) (w32 (10 * (vw h_1 124 9)))))) + y28)) → Pt n X zM277 98 [some (.ref 72), some (.int x1), some (.int x2), some (.int x3), some (.int x4), some (.int w5), some (.int w6), some (.int w7), some (.long w8), none, some (.int w10), none, none] [] h_28 (qI P))))))) ∧ (0 ≤ a4 → ((0 ≤ a4 → ((pre269 (vw h_1) a4) ∧ ∀ (y32 : Int) (h_32 : aH), (wS h_32 ∧ R269 (vw h_1) a4 y32 (vw h_32)) → ((p275 (vw h_32)) ∧ ∀ (y36 : Int) (h_36 : aH), (wS h_36 ∧ R275 (vw h_32) a1 a2 a3 (min (vw h_1 124 3) (w32 (10 * (vw h_1 124 9)))) y36 (vw h_36)) → (∀ (w5 : Int32) (w6 : Int32) (w8 : Int64) (w10 : Int32), w5.toInt = w32 (10 * (vw h_1 74 a1)) → w6.toInt = min (vw h_1 124 3) (w32 (10 * (vw h_1 124 9))) → w8.toInt = y32 → w10.toInt = hel (w64 ((w64 (y32 * (min (vw h_1 124 3) (w32 (10 * (vw h_1 124 9)))))) + y36)) → Pt n X zM277 98 [some (.ref 72), some (.int x1), some (.int x2), some (.int x3), some (.int x4), some (.int w5), some (.int w6), some (.int x4), some (.long w8), none, some (.int w10), none, none] [] h_36 (qI P))))) ∧ (a4 < 0 → ((p275 (vw h_1)) ∧ ∀ (y42 : Int) (h_42 : aH), (wS h_42 ∧ R275 (vw h_1) a1 a2 a3 (min (vw h_1 124 3) (w32 (10 * (vw h_1 124 9)))) y42 (vw h_42)) → (∀ (w5 : Int32) (w6 : Int32) (w8 : Int64) (w10 : Int32), w5.toInt = w32 (10 * (vw h_1 74 a1)) → w6.toInt = min (vw h_1 124 3) (w32 (10 * (vw h_1 124 9))) → w8.toInt = 1 → w10.toInt = hel (w64 ((w64 (1 * (min (vw h_1 124 3) (w32 (10 * (vw h_1 124 9)))))) + y42)) → Pt n X zM277 98 [some (.ref 72), some (.int x1), some (.int x2), some (.int x3), some (.int x4), some (.int w5), some (.int w6), some (.int x4), some (.long w8), none, some (.int w10), none, none] [] h_42 (qI P)))))))))) : Pt (n + 1) X zM277 0 [some (.ref 72), some (.int x1), some (.int x2), some (.int x3), some (.int x4), none, none, none, none, none, none, none, none] [] h (qI P) := by
  refine pt_1 (fun n d => r_aloadn gx277_0 rfl) ?_
  refine pt_d (pt_1 (fun n d => r_iloadn gx277_1 rfl) ?_)
  refine pt_d (pt_1 (fun n d => r_iloadn gx277_2 rfl) ?_)
  refine pt_d (pt_1 (fun n d => r_iloadn gx277_3 rfl) ?_)
  obtain ⟨pr1, H⟩ := H
  refine pt_d (pt_virt (as := [.int x1, .int x2, .int x3]) (r := []) gx277_4 rfl (show zmt[272]? = some zM272 from rfl) rfl rfl rfl rfl (c_272 S z1 z2 z3 pr1) (kqN (fun h_1 P1 => ?_)))
  have S1 := P1.1
  have H := H h_1 P1
  show Pt _ _ _ 7 _ [] _ _
  refine pt_d (pt_bipush gx277_7 (fun v2 h2 => ?_))
  refine pt_d (pt_1 (fun n d => r_aloadn gx277_9 rfl) ?_)
  refine pt_d (pt_getR gx277_10 S1 tr_72_4 ?_)
  refine pt_d (pt_1 (fun n d => r_iloadn gx277_13 rfl) ?_)
  refine pt_d (pt_iald (N' := 150) gx277_14 S1 tl_74 z1 (fun v4 p4 q4 h4 => ?_))
  have H := H p4 q4
  refine pt_d (pt_imul gx277_15 h2 h4 (fun v5 h5 => ?_))
  refine pt_d (pt_1 (fun n d => r_istore (L' := [some (.ref 72), some (.int x1), some (.int x2), some (.int x3), some (.int x4), some (.int v5), none, none, none, none, none, none, none]) gx277_16 rfl rfl) ?_)
  refine pt_d (pt_1 (fun n d => r_aloadn gx277_18 rfl) ?_)
  refine pt_d (pt_getR gx277_19 S1 tr_72_69 ?_)
  refine pt_d (pt_iconst gx277_22 (fun v7 h7 => ?_))
  refine pt_d (pt_iald (N' := 13) gx277_23 S1 tl_124 h7 (fun v8 p8 q8 h8 => ?_))
  refine pt_d (pt_bipush gx277_24 (fun v9 h9 => ?_))
  refine pt_d (pt_1 (fun n d => r_aloadn gx277_26 rfl) ?_)
  refine pt_d (pt_getR gx277_27 S1 tr_72_69 ?_)
  refine pt_d (pt_bipush gx277_30 (fun v11 h11 => ?_))
  refine pt_d (pt_iald (N' := 13) gx277_32 S1 tl_124 h11 (fun v12 p12 q12 h12 => ?_))
  refine pt_d (pt_imul gx277_33 h9 h12 (fun v13 h13 => ?_))
  refine pt_d (pt_stat (as := [.int v8, .int v13]) (r := []) gx277_34 rfl (show zmt[211]? = some zM211 from rfl) rfl rfl rfl rfl (c_211 S1 h8 h13) (kqP (fun v14 h14 => ?_)))
  show Pt _ _ _ 37 _ [.int v14] _ _
  refine pt_d (pt_1 (fun n d => r_istore (L' := [some (.ref 72), some (.int x1), some (.int x2), some (.int x3), some (.int x4), some (.int v5), some (.int v14), none, none, none, none, none, none]) gx277_37 rfl rfl) ?_)
  refine pt_d (pt_1 (fun n d => r_iload gx277_39 rfl) ?_)
  refine pt_d (pt_if_lt gx277_41 z4 (fun e15 => ?_) (fun e15 => ?_))
  · have H := H.1 e15
    refine pt_d (pt_1 (fun n d => r_aloadn gx277_49 rfl) ?_)
    refine pt_d (pt_1 (fun n d => r_iload gx277_50 rfl) ?_)
    refine pt_d (pt_1 (fun n d => r_iloadn gx277_52 rfl) ?_)
    refine pt_d (pt_1 (fun n d => r_iloadn gx277_53 rfl) ?_)
    obtain ⟨pr16, H⟩ := H
    refine pt_d (pt_virt (as := [.int v5, .int x2, .int x3]) (r := []) gx277_54 rfl (show zmt[265]? = some zM265 from rfl) rfl rfl rfl rfl (c_265 S1 h5 z2 z3 pr16) (kqI (fun v16 y16 h_16 h16 P16 => ?_)))
    have S16 := P16.1
    have H := H y16 h_16 P16
    show Pt _ _ _ 57 _ [.int v16] _ _
    refine pt_d (pt_1 (fun n d => r_istore (L' := [some (.ref 72), some (.int x1), some (.int x2), some (.int x3), some (.int x4), some (.int v5), some (.int v14), some (.int v16), none, none, none, none, none]) gx277_57 rfl rfl) ?_)
    refine pt_d (pt_1 (fun n d => r_iload gx277_59 rfl) ?_)
    refine pt_d (pt_if_ge gx277_61 h16 (fun e17 => ?_) (fun e17 => ?_))
    · have H := H.1 e17
      refine pt_d (pt_1 (fun n d => r_aloadn gx277_68 rfl) ?_)
      refine pt_d (pt_1 (fun n d => r_iload gx277_69 rfl) ?_)
      obtain ⟨pr18, H⟩ := H
      refine pt_d (pt_virt (as := [.int v16]) (r := []) gx277_71 rfl (show zmt[269]? = some zM269 from rfl) rfl rfl rfl rfl (c_269 S16 h16 pr18) (kqI (fun v18 y18 h_18 h18 P18 => ?_)))
      have S18 := P18.1
      have H := H y18 h_18 P18
      show Pt _ _ _ 74 _ [.int v18] _ _
      refine pt_d (pt_i2l gx277_74 h18 (fun v19 h19 => ?_))
      refine pt_d (pt_1 (fun n d => r_lstore (L' := [some (.ref 72), some (.int x1), some (.int x2), some (.int x3), some (.int x4), some (.int v5), some (.int v14), some (.int v16), some (.long v19), none, none, none, none]) gx277_75 rfl rfl) ?_)
      refine pt_d (pt_1 (fun n d => r_lload gx277_77 rfl) ?_)
      refine pt_d (pt_1 (fun n d => r_iload gx277_79 rfl) ?_)
      refine pt_d (pt_i2l gx277_81 h14 (fun v20 h20 => ?_))
      refine pt_d (pt_lmul gx277_82 h19 h20 (fun v21 h21 => ?_))
      refine pt_d (pt_1 (fun n d => r_aloadn gx277_83 rfl) ?_)
      refine pt_d (pt_1 (fun n d => r_iloadn gx277_84 rfl) ?_)
      refine pt_d (pt_1 (fun n d => r_iloadn gx277_85 rfl) ?_)
      refine pt_d (pt_1 (fun n d => r_iloadn gx277_86 rfl) ?_)
      refine pt_d (pt_1 (fun n d => r_iload gx277_87 rfl) ?_)
      obtain ⟨pr22, H⟩ := H
      refine pt_d (pt_virt (as := [.int x1, .int x2, .int x3, .int v14]) (r := [.long v21]) gx277_89 rfl (show zmt[275]? = some zM275 from rfl) rfl rfl rfl rfl (c_275 S18 z1 z2 z3 h14 pr22) (kqJ (fun v22 y22 h_22 h22 P22 => ?_)))
      have S22 := P22.1
      have H := H y22 h_22 P22
      show Pt _ _ _ 92 _ [.long v22, .long v21] _ _
      refine pt_d (pt_ladd gx277_92 h21 h22 (fun v23 h23 => ?_))
      refine pt_d (pt_stat (as := [.long v23]) (r := []) gx277_93 rfl (show zmt[276]? = some zM276 from rfl) rfl rfl rfl rfl (c_276 S22 h23) (kqP (fun v24 h24 => ?_)))
      show Pt _ _ _ 96 _ [.int v24] _ _
      refine pt_d (pt_1 (fun n d => r_istore (L' := [some (.ref 72), some (.int x1), some (.int x2), some (.int x3), some (.int x4), some (.int v5), some (.int v14), some (.int v16), some (.long v19), none, some (.int v24), none, none]) gx277_96 rfl rfl) ?_)
      exact H v5 v14 v16 v19 v24 h5 h14 h16 h19 h24
    · have H := H.2 e17
      refine pt_d (pt_lconst (c := 1) gx277_64 rfl (fun v25 h25 => ?_))
      refine pt_d (pt_1 (fun n d => r_goto gx277_65) ?_)
      refine pt_d (pt_1 (fun n d => r_lstore (L' := [some (.ref 72), some (.int x1), some (.int x2), some (.int x3), some (.int x4), some (.int v5), some (.int v14), some (.int v16), some (.long v25), none, none, none, none]) gx277_75 rfl rfl) ?_)
      refine pt_d (pt_1 (fun n d => r_lload gx277_77 rfl) ?_)
      refine pt_d (pt_1 (fun n d => r_iload gx277_79 rfl) ?_)
      refine pt_d (pt_i2l gx277_81 h14 (fun v26 h26 => ?_))
      refine pt_d (pt_lmul gx277_82 h25 h26 (fun v27 h27 => ?_))
      refine pt_d (pt_1 (fun n d => r_aloadn gx277_83 rfl) ?_)
      refine pt_d (pt_1 (fun n d => r_iloadn gx277_84 rfl) ?_)
      refine pt_d (pt_1 (fun n d => r_iloadn gx277_85 rfl) ?_)
      refine pt_d (pt_1 (fun n d => r_iloadn gx277_86 rfl) ?_)
      refine pt_d (pt_1 (fun n d => r_iload gx277_87 rfl) ?_)
      obtain ⟨pr28, H⟩ := H
      refine pt_d (pt_virt (as := [.int x1, .int x2, .int x3, .int v14]) (r := [.long v27]) gx277_89 rfl (show zmt[275]? = some zM275 from rfl) rfl rfl rfl rfl (c_275 S16 z1 z2 z3 h14 pr28) (kqJ (fun v28 y28 h_28 h28 P28 => ?_)))
      have S28 := P28.1
      have H := H y28 h_28 P28
      show Pt _ _ _ 92 _ [.long v28, .long v27] _ _
      refine pt_d (pt_ladd gx277_92 h27 h28 (fun v29 h29 => ?_))
      refine pt_d (pt_stat (as := [.long v29]) (r := []) gx277_93 rfl (show zmt[276]? = some zM276 from rfl) rfl rfl rfl rfl (c_276 S28 h29) (kqP (fun v30 h30 => ?_)))
      show Pt _ _ _ 96 _ [.int v30] _ _
      refine pt_d (pt_1 (fun n d => r_istore (L' := [some (.ref 72), some (.int x1), some (.int x2), some (.int x3), some (.int x4), some (.int v5), some (.int v14), some (.int v16), some (.long v25), none, some (.int v30), none, none]) gx277_96 rfl rfl) ?_)
      exact H v5 v14 v16 v25 v30 h5 h14 h16 h25 h30
  · have H := H.2 e15
    refine pt_d (pt_1 (fun n d => r_iload gx277_44 rfl) ?_)
    refine pt_d (pt_1 (fun n d => r_goto gx277_46) ?_)
    refine pt_d (pt_1 (fun n d => r_istore (L' := [some (.ref 72), some (.int x1), some (.int x2), some (.int x3), some (.int x4), some (.int v5), some (.int v14), some (.int x4), none, none, none, none, none]) gx277_57 rfl rfl) ?_)
    refine pt_d (pt_1 (fun n d => r_iload gx277_59 rfl) ?_)
    refine pt_d (pt_if_ge gx277_61 z4 (fun e31 => ?_) (fun e31 => ?_))
    · have H := H.1 e31
      refine pt_d (pt_1 (fun n d => r_aloadn gx277_68 rfl) ?_)
      refine pt_d (pt_1 (fun n d => r_iload gx277_69 rfl) ?_)
      obtain ⟨pr32, H⟩ := H
      refine pt_d (pt_virt (as := [.int x4]) (r := []) gx277_71 rfl (show zmt[269]? = some zM269 from rfl) rfl rfl rfl rfl (c_269 S1 z4 pr32) (kqI (fun v32 y32 h_32 h32 P32 => ?_)))
      have S32 := P32.1
      have H := H y32 h_32 P32
      show Pt _ _ _ 74 _ [.int v32] _ _
      refine pt_d (pt_i2l gx277_74 h32 (fun v33 h33 => ?_))
      refine pt_d (pt_1 (fun n d => r_lstore (L' := [some (.ref 72), some (.int x1), some (.int x2), some (.int x3), some (.int x4), some (.int v5), some (.int v14), some (.int x4), some (.long v33), none, none, none, none]) gx277_75 rfl rfl) ?_)
      refine pt_d (pt_1 (fun n d => r_lload gx277_77 rfl) ?_)
      refine pt_d (pt_1 (fun n d => r_iload gx277_79 rfl) ?_)
      refine pt_d (pt_i2l gx277_81 h14 (fun v34 h34 => ?_))
      refine pt_d (pt_lmul gx277_82 h33 h34 (fun v35 h35 => ?_))
      refine pt_d (pt_1 (fun n d => r_aloadn gx277_83 rfl) ?_)
      refine pt_d (pt_1 (fun n d => r_iloadn gx277_84 rfl) ?_)
      refine pt_d (pt_1 (fun n d => r_iloadn gx277_85 rfl) ?_)
      refine pt_d (pt_1 (fun n d => r_iloadn gx277_86 rfl) ?_)
      refine pt_d (pt_1 (fun n d => r_iload gx277_87 rfl) ?_)
      obtain ⟨pr36, H⟩ := H
      refine pt_d (pt_virt (as := [.int x1, .int x2, .int x3, .int v14]) (r := [.long v35]) gx277_89 rfl (show zmt[275]? = some zM275 from rfl) rfl rfl rfl rfl (c_275 S32 z1 z2 z3 h14 pr36) (kqJ (fun v36 y36 h_36 h36 P36 => ?_)))
      have S36 := P36.1
      have H := H y36 h_36 P36
      show Pt _ _ _ 92 _ [.long v36, .long v35] _ _
      refine pt_d (pt_ladd gx277_92 h35 h36 (fun v37 h37 => ?_))
      refine pt_d (pt_stat (as := [.long v37]) (r := []) gx277_93 rfl (show zmt[276]? = some zM276 from rfl) rfl rfl rfl rfl (c_276 S36 h37) (kqP (fun v38 h38 => ?_)))
      show Pt _ _ _ 96 _ [.int v38] _ _
      refine pt_d (pt_1 (fun n d => r_istore (L' := [some (.ref 72), some (.int x1), some (.int x2), some (.int x3), some (.int x4), some (.int v5), some (.int v14), some (.int x4), some (.long v33), none, some (.int v38), none, none]) gx277_96 rfl rfl) ?_)
      exact H v5 v14 v33 v38 h5 h14 h33 h38
    · have H := H.2 e31
      refine pt_d (pt_lconst (c := 1) gx277_64 rfl (fun v39 h39 => ?_))
      refine pt_d (pt_1 (fun n d => r_goto gx277_65) ?_)
      refine pt_d (pt_1 (fun n d => r_lstore (L' := [some (.ref 72), some (.int x1), some (.int x2), some (.int x3), some (.int x4), some (.int v5), some (.int v14), some (.int x4), some (.long v39), none, none, none, none]) gx277_75 rfl rfl) ?_)
      refine pt_d (pt_1 (fun n d => r_lload gx277_77 rfl) ?_)
      refine pt_d (pt_1 (fun n d => r_iload gx277_79 rfl) ?_)
      refine pt_d (pt_i2l gx277_81 h14 (fun v40 h40 => ?_))
      refine pt_d (pt_lmul gx277_82 h39 h40 (fun v41 h41 => ?_))
      refine pt_d (pt_1 (fun n d => r_aloadn gx277_83 rfl) ?_)
      refine pt_d (pt_1 (fun n d => r_iloadn gx277_84 rfl) ?_)
      refine pt_d (pt_1 (fun n d => r_iloadn gx277_85 rfl) ?_)
      refine pt_d (pt_1 (fun n d => r_iloadn gx277_86 rfl) ?_)
      refine pt_d (pt_1 (fun n d => r_iload gx277_87 rfl) ?_)
      obtain ⟨pr42, H⟩ := H
      refine pt_d (pt_virt (as := [.int x1, .int x2, .int x3, .int v14]) (r := [.long v41]) gx277_89 rfl (show zmt[275]? = some zM275 from rfl) rfl rfl rfl rfl (c_275 S1 z1 z2 z3 h14 pr42) (kqJ (fun v42 y42 h_42 h42 P42 => ?_)))
      have S42 := P42.1
      have H := H y42 h_42 P42
      show Pt _ _ _ 92 _ [.long v42, .long v41] _ _
      refine pt_d (pt_ladd gx277_92 h41 h42 (fun v43 h43 => ?_))
      refine pt_d (pt_stat (as := [.long v43]) (r := []) gx277_93 rfl (show zmt[276]? = some zM276 from rfl) rfl rfl rfl rfl (c_276 S42 h43) (kqP (fun v44 h44 => ?_)))
      show Pt _ _ _ 96 _ [.int v44] _ _
      refine pt_d (pt_1 (fun n d => r_istore (L' := [some (.ref 72), some (.int x1), some (.int x2), some (.int x3), some (.int x4), some (.int v5), some (.int v14), some (.int x4), some (.long v39), none, some (.int v44), none, none]) gx277_96 rfl rfl) ?_)
      exact H v5 v14 v39 v44 h5 h14 h39 h44
theorem d277_98 {n : Nat} {X : aX} {h : aH} {P : Int → aH → Prop} {x1 x2 x3 x4 x5 x6 x7 x10 : Int32} {x8 : Int64} {a1 a2 a3 a4 a5 a6 a7 a10 a8 : Int} (S : wS h) (z1 : x1.toInt = a1) (z2 : x2.toInt = a2) (z3 : x3.toInt = a3) (z4 : x4.toInt = a4) (z5 : x5.toInt = a5) (z6 : x6.toInt = a6) (z7 : x7.toInt = a7) (z8 : x8.toInt = a8) (z10 : x10.toInt = a10) (H : ∀ h_3 : aH, wS h_3 → vw h_3 = up (vw h) 128 1 a10 → ((0 ≤ vw h_3 72 55 ∧ vw h_3 72 55 ≤ 16) ∧ ∀ (y6 : Int) (h_6 : aH), (wS h_6 ∧ h_6 = h_3 ∧ R265 (vw h_3) (w32 (a5 + 1)) a2 a3 y6) → ((y6 < 0 → (∀ (w7 : Int32) (w10 : Int32), w7.toInt = y6 → w10.toInt = hel (w64 (a10 + (jDiv (w64 (3 * a10)) 10))) → Pt n X zM277 152 [some (.ref 72), some (.int x1), some (.int x2), some (.int x3), some (.int x4), some (.int x5), some (.int x6), some (.int w7), some (.long x8), none, some (.int w10), none, none] [] h_6 (qI P))) ∧ (0 ≤ y6 → ((pre269 (vw h_6) y6) ∧ ∀ (y16 : Int) (h_16 : aH), (wS h_16 ∧ R269 (vw h_6) y6 y16 (vw h_16)) → ((y16 = 0 → (∀ (w7 : Int32), w7.toInt = y6 → Pt n X zM277 152 [some (.ref 72), some (.int x1), some (.int x2), some (.int x3), some (.int x4), some (.int x5), some (.int x6), some (.int w7), some (.long x8), none, some (.int x10), none, none] [] h_16 (qI P))) ∧ (y16 ≠ 0 → (∀ (w7 : Int32) (w10 : Int32), w7.toInt = y6 → w10.toInt = hel (w64 (a10 + (jDiv (w64 (3 * a10)) 10))) → Pt n X zM277 152 [some (.ref 72), some (.int x1), some (.int x2), some (.int x3), some (.int x4), some (.int x5), some (.int x6), some (.int w7), some (.long x8), none, some (.int w10), none, none] [] h_16 (qI P))))))))) : Pt (n + 1) X zM277 98 [some (.ref 72), some (.int x1), some (.int x2), some (.int x3), some (.int x4), some (.int x5), some (.int x6), some (.int x7), some (.long x8), none, some (.int x10), none, none] [] h (qI P) := by
  refine pt_1 (fun n d => r_aloadn gx277_98 rfl) ?_
  refine pt_d (pt_getR gx277_99 S tr_72_74 ?_)
  refine pt_d (pt_iconst gx277_102 (fun v2 h2 => ?_))
  refine pt_d (pt_1 (fun n d => r_iload gx277_103 rfl) ?_)
  refine pt_d (pt_iast (N' := 6) gx277_105 S tl_128 h2 z10 (fun h_3 S3 p3 q3 e3 => ?_))
  refine pt_d (pt_1 (fun n d => r_aloadn gx277_106 rfl) ?_)
  refine pt_d (pt_1 (fun n d => r_iload gx277_107 rfl) ?_)
  refine pt_d (pt_iconst gx277_109 (fun v4 h4 => ?_))
  refine pt_d (pt_iadd gx277_110 z5 h4 (fun v5 h5 => ?_))
  refine pt_d (pt_1 (fun n d => r_iloadn gx277_111 rfl) ?_)
  refine pt_d (pt_1 (fun n d => r_iloadn gx277_112 rfl) ?_)
  have H := H h_3 S3 (by rw [e3])
  obtain ⟨pr6, H⟩ := H
  refine pt_d (pt_virt (as := [.int v5, .int x2, .int x3]) (r := []) gx277_113 rfl (show zmt[265]? = some zM265 from rfl) rfl rfl rfl rfl (c_265 S3 h5 z2 z3 pr6) (kqI (fun v6 y6 h_6 h6 P6 => ?_)))
  have S6 := P6.1
  have H := H y6 h_6 P6
  show Pt _ _ _ 116 _ [.int v6] _ _
  refine pt_d (pt_1 (fun n d => r_istore (L' := [some (.ref 72), some (.int x1), some (.int x2), some (.int x3), some (.int x4), some (.int x5), some (.int x6), some (.int v6), some (.long x8), none, some (.int x10), none, none]) gx277_116 rfl rfl) ?_)
  refine pt_d (pt_1 (fun n d => r_iload gx277_118 rfl) ?_)
  refine pt_d (pt_if_lt gx277_120 h6 (fun e7 => ?_) (fun e7 => ?_))
  · have H := H.1 e7
    refine pt_d (pt_1 (fun n d => r_iload gx277_132 rfl) ?_)
    refine pt_d (pt_i2l gx277_134 z10 (fun v8 h8 => ?_))
    refine pt_d (pt_ldc2_w (c := 3) gx277_135 rfl (fun v9 h9 => ?_))
    refine pt_d (pt_1 (fun n d => r_iload gx277_138 rfl) ?_)
    refine pt_d (pt_i2l gx277_140 z10 (fun v10 h10 => ?_))
    refine pt_d (pt_lmul gx277_141 h9 h10 (fun v11 h11 => ?_))
    refine pt_d (pt_ldc2_w (c := 10) gx277_142 rfl (fun v12 h12 => ?_))
    refine pt_d (pt_ldiv gx277_145 h11 h12 (fun v13 h13 => ?_))
    refine pt_d (pt_ladd gx277_146 h8 h13 (fun v14 h14 => ?_))
    refine pt_d (pt_stat (as := [.long v14]) (r := []) gx277_147 rfl (show zmt[276]? = some zM276 from rfl) rfl rfl rfl rfl (c_276 S6 h14) (kqP (fun v15 h15 => ?_)))
    show Pt _ _ _ 150 _ [.int v15] _ _
    refine pt_d (pt_1 (fun n d => r_istore (L' := [some (.ref 72), some (.int x1), some (.int x2), some (.int x3), some (.int x4), some (.int x5), some (.int x6), some (.int v6), some (.long x8), none, some (.int v15), none, none]) gx277_150 rfl rfl) ?_)
    exact H v6 v15 h6 h15
  · have H := H.2 e7
    refine pt_d (pt_1 (fun n d => r_aloadn gx277_123 rfl) ?_)
    refine pt_d (pt_1 (fun n d => r_iload gx277_124 rfl) ?_)
    obtain ⟨pr16, H⟩ := H
    refine pt_d (pt_virt (as := [.int v6]) (r := []) gx277_126 rfl (show zmt[269]? = some zM269 from rfl) rfl rfl rfl rfl (c_269 S6 h6 pr16) (kqI (fun v16 y16 h_16 h16 P16 => ?_)))
    have S16 := P16.1
    have H := H y16 h_16 P16
    show Pt _ _ _ 129 _ [.int v16] _ _
    refine pt_d (pt_if_eq gx277_129 h16 (fun e17 => ?_) (fun e17 => ?_))
    · have H := H.1 e17
      exact H v6 h6
    · have H := H.2 e17
      refine pt_d (pt_1 (fun n d => r_iload gx277_132 rfl) ?_)
      refine pt_d (pt_i2l gx277_134 z10 (fun v18 h18 => ?_))
      refine pt_d (pt_ldc2_w (c := 3) gx277_135 rfl (fun v19 h19 => ?_))
      refine pt_d (pt_1 (fun n d => r_iload gx277_138 rfl) ?_)
      refine pt_d (pt_i2l gx277_140 z10 (fun v20 h20 => ?_))
      refine pt_d (pt_lmul gx277_141 h19 h20 (fun v21 h21 => ?_))
      refine pt_d (pt_ldc2_w (c := 10) gx277_142 rfl (fun v22 h22 => ?_))
      refine pt_d (pt_ldiv gx277_145 h21 h22 (fun v23 h23 => ?_))
      refine pt_d (pt_ladd gx277_146 h18 h23 (fun v24 h24 => ?_))
      refine pt_d (pt_stat (as := [.long v24]) (r := []) gx277_147 rfl (show zmt[276]? = some zM276 from rfl) rfl rfl rfl rfl (c_276 S16 h24) (kqP (fun v25 h25 => ?_)))
      show Pt _ _ _ 150 _ [.int v25] _ _
      refine pt_d (pt_1 (fun n d => r_istore (L' := [some (.ref 72), some (.int x1), some (.int x2), some (.int x3), some (.int x4), some (.int x5), some (.int x6), some (.int v6), some (.long x8), none, some (.int v25), none, none]) gx277_150 rfl rfl) ?_)
      exact H v6 v25 h6 h25
theorem d277_152 {n : Nat} {X : aX} {h : aH} {P : Int → aH → Prop} {x1 x2 x3 x4 x5 x6 x7 x10 : Int32} {x8 : Int64} {a1 a2 a3 a4 a5 a6 a7 a10 a8 : Int} (S : wS h) (z1 : x1.toInt = a1) (z2 : x2.toInt = a2) (z3 : x3.toInt = a3) (z4 : x4.toInt = a4) (z5 : x5.toInt = a5) (z6 : x6.toInt = a6) (z7 : x7.toInt = a7) (z8 : x8.toInt = a8) (z10 : x10.toInt = a10) (H : ∀ h_3 : aH, wS h_3 → vw h_3 = up (vw h) 128 2 a10 → ((0 ≤ vw h_3 72 55 ∧ vw h_3 72 55 ≤ 16) ∧ ∀ (y6 : Int) (h_6 : aH), (wS h_6 ∧ h_6 = h_3 ∧ R265 (vw h_3) (w32 (a5 + 2)) a2 a3 y6) → ((y6 < 0 → ∀ h_9 : aH, wS h_9 → vw h_9 = up (vw h_6) 124 10 a10 → (∀ (w7 : Int32) (u11_ : Option Value), w7.toInt = y6 → Pt n X zM277 212 [some (.ref 72), some (.int x1), some (.int x2), some (.int x3), some (.int x4), some (.int x5), some (.int x6), some (.int w7), some (.long x8), none, some (.int x10), u11_, none] [] h_9 (qI P))) ∧ (0 ≤ y6 → ∀ h_9 : aH, wS h_9 → vw h_9 = up (vw h_6) 124 10 a10 → ((pre269 (vw h_9) y6) ∧ ∀ (y11 : Int) (h_11 : aH), (wS h_11 ∧ R269 (vw h_9) y6 y11 (vw h_11)) → ((0 ≤ y11 → (∀ (w7 : Int32) (w10 : Int32) (u11_ : Option Value), w7.toInt = y6 → w10.toInt = min y11 a10 → Pt n X zM277 212 [some (.ref 72), some (.int x1), some (.int x2), some (.int x3), some (.int x4), some (.int x5), some (.int x6), some (.int w7), some (.long x8), none, some (.int w10), u11_, none] [] h_11 (qI P))) ∧ (y11 < 0 → (∀ (w7 : Int32) (w10 : Int32) (u11_ : Option Value), w7.toInt = y6 → w10.toInt = 0 → Pt n X zM277 212 [some (.ref 72), some (.int x1), some (.int x2), some (.int x3), some (.int x4), some (.int x5), some (.int x6), some (.int w7), some (.long x8), none, some (.int w10), u11_, none] [] h_11 (qI P))))))))) : Pt (n + 1) X zM277 152 [some (.ref 72), some (.int x1), some (.int x2), some (.int x3), some (.int x4), some (.int x5), some (.int x6), some (.int x7), some (.long x8), none, some (.int x10), none, none] [] h (qI P) := by
  refine pt_1 (fun n d => r_aloadn gx277_152 rfl) ?_
  refine pt_d (pt_getR gx277_153 S tr_72_74 ?_)
  refine pt_d (pt_iconst gx277_156 (fun v2 h2 => ?_))
  refine pt_d (pt_1 (fun n d => r_iload gx277_157 rfl) ?_)
  refine pt_d (pt_iast (N' := 6) gx277_159 S tl_128 h2 z10 (fun h_3 S3 p3 q3 e3 => ?_))
  refine pt_d (pt_1 (fun n d => r_aloadn gx277_160 rfl) ?_)
  refine pt_d (pt_1 (fun n d => r_iload gx277_161 rfl) ?_)
  refine pt_d (pt_iconst gx277_163 (fun v4 h4 => ?_))
  refine pt_d (pt_iadd gx277_164 z5 h4 (fun v5 h5 => ?_))
  refine pt_d (pt_1 (fun n d => r_iloadn gx277_165 rfl) ?_)
  refine pt_d (pt_1 (fun n d => r_iloadn gx277_166 rfl) ?_)
  have H := H h_3 S3 (by rw [e3])
  obtain ⟨pr6, H⟩ := H
  refine pt_d (pt_virt (as := [.int v5, .int x2, .int x3]) (r := []) gx277_167 rfl (show zmt[265]? = some zM265 from rfl) rfl rfl rfl rfl (c_265 S3 h5 z2 z3 pr6) (kqI (fun v6 y6 h_6 h6 P6 => ?_)))
  have S6 := P6.1
  have H := H y6 h_6 P6
  show Pt _ _ _ 170 _ [.int v6] _ _
  refine pt_d (pt_1 (fun n d => r_istore (L' := [some (.ref 72), some (.int x1), some (.int x2), some (.int x3), some (.int x4), some (.int x5), some (.int x6), some (.int v6), some (.long x8), none, some (.int x10), none, none]) gx277_170 rfl rfl) ?_)
  refine pt_d (pt_1 (fun n d => r_aloadn gx277_172 rfl) ?_)
  refine pt_d (pt_getR gx277_173 S6 tr_72_69 ?_)
  refine pt_d (pt_bipush gx277_176 (fun v8 h8 => ?_))
  refine pt_d (pt_1 (fun n d => r_iload gx277_178 rfl) ?_)
  refine pt_d (pt_iast (N' := 13) gx277_180 S6 tl_124 h8 z10 (fun h_9 S9 p9 q9 e9 => ?_))
  refine pt_d (pt_1 (fun n d => r_iload gx277_181 rfl) ?_)
  refine pt_d (pt_if_lt gx277_183 h6 (fun e10 => ?_) (fun e10 => ?_))
  · have H := H.1 e10
    have H := H h_9 S9 (by rw [e9])
    exact H v6 _ h6
  · have H := H.2 e10
    refine pt_d (pt_1 (fun n d => r_aloadn gx277_186 rfl) ?_)
    refine pt_d (pt_1 (fun n d => r_iload gx277_187 rfl) ?_)
    have H := H h_9 S9 (by rw [e9])
    obtain ⟨pr11, H⟩ := H
    refine pt_d (pt_virt (as := [.int v6]) (r := []) gx277_189 rfl (show zmt[269]? = some zM269 from rfl) rfl rfl rfl rfl (c_269 S9 h6 pr11) (kqI (fun v11 y11 h_11 h11 P11 => ?_)))
    have S11 := P11.1
    have H := H y11 h_11 P11
    show Pt _ _ _ 192 _ [.int v11] _ _
    refine pt_d (pt_1 (fun n d => r_istore (L' := [some (.ref 72), some (.int x1), some (.int x2), some (.int x3), some (.int x4), some (.int x5), some (.int x6), some (.int v6), some (.long x8), none, some (.int x10), some (.int v11), none]) gx277_192 rfl rfl) ?_)
    refine pt_d (pt_1 (fun n d => r_iload gx277_194 rfl) ?_)
    refine pt_d (pt_if_ge gx277_196 h11 (fun e12 => ?_) (fun e12 => ?_))
    · have H := H.1 e12
      refine pt_d (pt_1 (fun n d => r_iload gx277_203 rfl) ?_)
      refine pt_d (pt_1 (fun n d => r_iload gx277_205 rfl) ?_)
      refine pt_d (pt_stat (as := [.int v11, .int x10]) (r := []) gx277_207 rfl (show zmt[211]? = some zM211 from rfl) rfl rfl rfl rfl (c_211 S11 h11 z10) (kqP (fun v13 h13 => ?_)))
      show Pt _ _ _ 210 _ [.int v13] _ _
      refine pt_d (pt_1 (fun n d => r_istore (L' := [some (.ref 72), some (.int x1), some (.int x2), some (.int x3), some (.int x4), some (.int x5), some (.int x6), some (.int v6), some (.long x8), none, some (.int v13), some (.int v11), none]) gx277_210 rfl rfl) ?_)
      exact H v6 v13 _ h6 h13
    · have H := H.2 e12
      refine pt_d (pt_iconst gx277_199 (fun v14 h14 => ?_))
      refine pt_d (pt_1 (fun n d => r_goto gx277_200) ?_)
      refine pt_d (pt_1 (fun n d => r_istore (L' := [some (.ref 72), some (.int x1), some (.int x2), some (.int x3), some (.int x4), some (.int x5), some (.int x6), some (.int v6), some (.long x8), none, some (.int v14), some (.int v11), none]) gx277_210 rfl rfl) ?_)
      exact H v6 v14 _ h6 h14
theorem d277_212 {n : Nat} {X : aX} {h : aH} {P : Int → aH → Prop} {x1 x2 x3 x4 x5 x6 x7 x10 : Int32} {x8 : Int64} {a1 a2 a3 a4 a5 a6 a7 a10 a8 : Int} {u11 : Option Value} (S : wS h) (z1 : x1.toInt = a1) (z2 : x2.toInt = a2) (z3 : x3.toInt = a3) (z4 : x4.toInt = a4) (z5 : x5.toInt = a5) (z6 : x6.toInt = a6) (z7 : x7.toInt = a7) (z8 : x8.toInt = a8) (z10 : x10.toInt = a10) (H : ∀ h_7 : aH, wS h_7 → vw h_7 = up (up (vw h) 124 10 0) 128 3 a10 → ((0 ≤ vw h_7 72 55 ∧ vw h_7 72 55 ≤ 16) ∧ ∀ (y10 : Int) (h_10 : aH), (wS h_10 ∧ h_10 = h_7 ∧ R265 (vw h_7) (w32 (a5 + 3)) a2 a3 y10) → ((y10 < 0 → ∀ h_13 : aH, wS h_13 → vw h_13 = up (vw h_10) 72 75 (-1) → (∀ (w7 : Int32) (w11 : Int32) (u12_ : Option Value), w7.toInt = y10 → w11.toInt = 0 → Pt n X zM277 287 [some (.ref 72), some (.int x1), some (.int x2), some (.int x3), some (.int x4), some (.int x5), some (.int x6), some (.int w7), some (.long x8), none, some (.int x10), some (.int w11), u12_] [] h_13 (qI P))) ∧ (0 ≤ y10 → ∀ h_13 : aH, wS h_13 → vw h_13 = up (vw h_10) 72 75 (-1) → ((pre269 (vw h_13) y10) ∧ ∀ (y15 : Int) (h_15 : aH), (wS h_15 ∧ R269 (vw h_13) y10 y15 (vw h_15)) → ((0 ≤ y15 → ∀ h_17 : aH, wS h_17 → vw h_17 = up (vw h_15) 72 75 (vw h_15 72 71) → (∀ (w7 : Int32) (w11 : Int32) (u12_ : Option Value), w7.toInt = y10 → w11.toInt = min y15 100 → Pt n X zM277 287 [some (.ref 72), some (.int x1), some (.int x2), some (.int x3), some (.int x4), some (.int x5), some (.int x6), some (.int w7), some (.long x8), none, some (.int x10), some (.int w11), u12_] [] h_17 (qI P))) ∧ (y15 < 0 → ∀ h_17 : aH, wS h_17 → vw h_17 = up (vw h_15) 72 75 (vw h_15 72 71) → (∀ (w7 : Int32) (w11 : Int32) (u12_ : Option Value), w7.toInt = y10 → w11.toInt = 0 → Pt n X zM277 287 [some (.ref 72), some (.int x1), some (.int x2), some (.int x3), some (.int x4), some (.int x5), some (.int x6), some (.int w7), some (.long x8), none, some (.int x10), some (.int w11), u12_] [] h_17 (qI P))))))))) : Pt (n + 1) X zM277 212 [some (.ref 72), some (.int x1), some (.int x2), some (.int x3), some (.int x4), some (.int x5), some (.int x6), some (.int x7), some (.long x8), none, some (.int x10), u11, none] [] h (qI P) := by
  refine pt_1 (fun n d => r_aloadn gx277_212 rfl) ?_
  refine pt_d (pt_getR gx277_213 S tr_72_69 ?_)
  refine pt_d (pt_bipush gx277_216 (fun v2 h2 => ?_))
  refine pt_d (pt_iconst gx277_218 (fun v3 h3 => ?_))
  refine pt_d (pt_iast (N' := 13) gx277_219 S tl_124 h2 h3 (fun h_4 S4 p4 q4 e4 => ?_))
  refine pt_d (pt_1 (fun n d => r_aloadn gx277_220 rfl) ?_)
  refine pt_d (pt_getR gx277_221 S4 tr_72_74 ?_)
  refine pt_d (pt_iconst gx277_224 (fun v6 h6 => ?_))
  refine pt_d (pt_1 (fun n d => r_iload gx277_225 rfl) ?_)
  refine pt_d (pt_iast (N' := 6) gx277_227 S4 tl_128 h6 z10 (fun h_7 S7 p7 q7 e7 => ?_))
  refine pt_d (pt_1 (fun n d => r_aloadn gx277_228 rfl) ?_)
  refine pt_d (pt_1 (fun n d => r_iload gx277_229 rfl) ?_)
  refine pt_d (pt_iconst gx277_231 (fun v8 h8 => ?_))
  refine pt_d (pt_iadd gx277_232 z5 h8 (fun v9 h9 => ?_))
  refine pt_d (pt_1 (fun n d => r_iloadn gx277_233 rfl) ?_)
  refine pt_d (pt_1 (fun n d => r_iloadn gx277_234 rfl) ?_)
  have H := H h_7 S7 (by rw [e7, e4])
  obtain ⟨pr10, H⟩ := H
  refine pt_d (pt_virt (as := [.int v9, .int x2, .int x3]) (r := []) gx277_235 rfl (show zmt[265]? = some zM265 from rfl) rfl rfl rfl rfl (c_265 S7 h9 z2 z3 pr10) (kqI (fun v10 y10 h_10 h10 P10 => ?_)))
  have S10 := P10.1
  have H := H y10 h_10 P10
  show Pt _ _ _ 238 _ [.int v10] _ _
  refine pt_d (pt_1 (fun n d => r_istore (L' := [some (.ref 72), some (.int x1), some (.int x2), some (.int x3), some (.int x4), some (.int x5), some (.int x6), some (.int v10), some (.long x8), none, some (.int x10), u11, none]) gx277_238 rfl rfl) ?_)
  refine pt_d (pt_iconst gx277_240 (fun v11 h11 => ?_))
  refine pt_d (pt_1 (fun n d => r_istore (L' := [some (.ref 72), some (.int x1), some (.int x2), some (.int x3), some (.int x4), some (.int x5), some (.int x6), some (.int v10), some (.long x8), none, some (.int x10), some (.int v11), none]) gx277_241 rfl rfl) ?_)
  refine pt_d (pt_1 (fun n d => r_aloadn gx277_243 rfl) ?_)
  refine pt_d (pt_iconst gx277_244 (fun v12 h12 => ?_))
  refine pt_d (pt_putI (B := 75) gx277_245 S10 h12 (fun h_13 S13 e13 => ?_))
  refine pt_d (pt_1 (fun n d => r_iload gx277_248 rfl) ?_)
  refine pt_d (pt_if_lt gx277_250 h10 (fun e14 => ?_) (fun e14 => ?_))
  · have H := H.1 e14
    have H := H h_13 S13 (by rw [e13])
    exact H v10 v11 _ h10 h11
  · have H := H.2 e14
    refine pt_d (pt_1 (fun n d => r_aloadn gx277_253 rfl) ?_)
    refine pt_d (pt_1 (fun n d => r_iload gx277_254 rfl) ?_)
    have H := H h_13 S13 (by rw [e13])
    obtain ⟨pr15, H⟩ := H
    refine pt_d (pt_virt (as := [.int v10]) (r := []) gx277_256 rfl (show zmt[269]? = some zM269 from rfl) rfl rfl rfl rfl (c_269 S13 h10 pr15) (kqI (fun v15 y15 h_15 h15 P15 => ?_)))
    have S15 := P15.1
    have H := H y15 h_15 P15
    show Pt _ _ _ 259 _ [.int v15] _ _
    refine pt_d (pt_1 (fun n d => r_istore (L' := [some (.ref 72), some (.int x1), some (.int x2), some (.int x3), some (.int x4), some (.int x5), some (.int x6), some (.int v10), some (.long x8), none, some (.int x10), some (.int v11), some (.int v15)]) gx277_259 rfl rfl) ?_)
    refine pt_d (pt_1 (fun n d => r_aloadn gx277_261 rfl) ?_)
    refine pt_d (pt_1 (fun n d => r_aloadn gx277_262 rfl) ?_)
    refine pt_d (pt_getI (B := 71) gx277_263 S15 (fun v16 h16 => ?_))
    refine pt_d (pt_putI (B := 75) gx277_266 S15 h16 (fun h_17 S17 e17 => ?_))
    refine pt_d (pt_1 (fun n d => r_iload gx277_269 rfl) ?_)
    refine pt_d (pt_if_ge gx277_271 h15 (fun e18 => ?_) (fun e18 => ?_))
    · have H := H.1 e18
      refine pt_d (pt_1 (fun n d => r_iload gx277_278 rfl) ?_)
      refine pt_d (pt_bipush gx277_280 (fun v19 h19 => ?_))
      refine pt_d (pt_stat (as := [.int v15, .int v19]) (r := []) gx277_282 rfl (show zmt[211]? = some zM211 from rfl) rfl rfl rfl rfl (c_211 S17 h15 h19) (kqP (fun v20 h20 => ?_)))
      show Pt _ _ _ 285 _ [.int v20] _ _
      refine pt_d (pt_1 (fun n d => r_istore (L' := [some (.ref 72), some (.int x1), some (.int x2), some (.int x3), some (.int x4), some (.int x5), some (.int x6), some (.int v10), some (.long x8), none, some (.int x10), some (.int v20), some (.int v15)]) gx277_285 rfl rfl) ?_)
      have H := H h_17 S17 (by rw [e17])
      exact H v10 v20 _ h10 h20
    · have H := H.2 e18
      refine pt_d (pt_iconst gx277_274 (fun v21 h21 => ?_))
      refine pt_d (pt_1 (fun n d => r_goto gx277_275) ?_)
      refine pt_d (pt_1 (fun n d => r_istore (L' := [some (.ref 72), some (.int x1), some (.int x2), some (.int x3), some (.int x4), some (.int x5), some (.int x6), some (.int v10), some (.long x8), none, some (.int x10), some (.int v21), some (.int v15)]) gx277_285 rfl rfl) ?_)
      have H := H h_17 S17 (by rw [e17])
      exact H v10 v21 _ h10 h21
theorem d277_287 {n : Nat} {X : aX} {h : aH} {P : Int → aH → Prop} {x1 x2 x3 x4 x5 x6 x7 x10 x11 : Int32} {x8 : Int64} {a1 a2 a3 a4 a5 a6 a7 a10 a11 a8 : Int} {u12 : Option Value} (S : wS h) (z1 : x1.toInt = a1) (z2 : x2.toInt = a2) (z3 : x3.toInt = a3) (z4 : x4.toInt = a4) (z5 : x5.toInt = a5) (z6 : x6.toInt = a6) (z7 : x7.toInt = a7) (z8 : x8.toInt = a8) (z10 : x10.toInt = a10) (z11 : x11.toInt = a11) (H : ((vw h 124 11 ≠ 0 → (∀ (u12_ : Option Value), Pt n X zM277 318 [some (.ref 72), some (.int x1), some (.int x2), some (.int x3), some (.int x4), some (.int x5), some (.int x6), some (.int x7), some (.long x8), none, some (.int x10), some (.int x11), u12_] [] h (qI P))) ∧ (vw h 124 11 = 0 → (∀ (w10 : Int32) (u12_ : Option Value), w10.toInt = w32 (a10 - (w32 (jDiv (w64 ((w64 (a10 * a11)) + 99)) 100))) → Pt n X zM277 318 [some (.ref 72), some (.int x1), some (.int x2), some (.int x3), some (.int x4), some (.int x5), some (.int x6), some (.int x7), some (.long x8), none, some (.int w10), some (.int x11), u12_] [] h (qI P))))) : Pt (n + 1) X zM277 287 [some (.ref 72), some (.int x1), some (.int x2), some (.int x3), some (.int x4), some (.int x5), some (.int x6), some (.int x7), some (.long x8), none, some (.int x10), some (.int x11), u12] [] h (qI P) := by
  refine pt_1 (fun n d => r_aloadn gx277_287 rfl) ?_
  refine pt_d (pt_getR gx277_288 S tr_72_69 ?_)
  refine pt_d (pt_bipush gx277_291 (fun v2 h2 => ?_))
  refine pt_d (pt_iald (N' := 13) gx277_293 S tl_124 h2 (fun v3 p3 q3 h3 => ?_))
  refine pt_d (pt_if_ne gx277_294 h3 (fun e4 => ?_) (fun e4 => ?_))
  · have H := H.1 e4
    exact H _
  · have H := H.2 e4
    refine pt_d (pt_1 (fun n d => r_iload gx277_297 rfl) ?_)
    refine pt_d (pt_1 (fun n d => r_iload gx277_299 rfl) ?_)
    refine pt_d (pt_i2l gx277_301 z10 (fun v5 h5 => ?_))
    refine pt_d (pt_1 (fun n d => r_iload gx277_302 rfl) ?_)
    refine pt_d (pt_i2l gx277_304 z11 (fun v6 h6 => ?_))
    refine pt_d (pt_lmul gx277_305 h5 h6 (fun v7 h7 => ?_))
    refine pt_d (pt_ldc2_w (c := 99) gx277_306 rfl (fun v8 h8 => ?_))
    refine pt_d (pt_ladd gx277_309 h7 h8 (fun v9 h9 => ?_))
    refine pt_d (pt_ldc2_w (c := 100) gx277_310 rfl (fun v10 h10 => ?_))
    refine pt_d (pt_ldiv gx277_313 h9 h10 (fun v11 h11 => ?_))
    refine pt_d (pt_l2i gx277_314 h11 (fun v12 h12 => ?_))
    refine pt_d (pt_isub gx277_315 z10 h12 (fun v13 h13 => ?_))
    refine pt_d (pt_1 (fun n d => r_istore (L' := [some (.ref 72), some (.int x1), some (.int x2), some (.int x3), some (.int x4), some (.int x5), some (.int x6), some (.int x7), some (.long x8), none, some (.int v13), some (.int x11), u12]) gx277_316 rfl rfl) ?_)
    exact H v13 _ h13
theorem d277_318 {n : Nat} {X : aX} {h : aH} {P : Int → aH → Prop} {x1 x2 x3 x4 x5 x6 x7 x10 x11 : Int32} {x8 : Int64} {a1 a2 a3 a4 a5 a6 a7 a10 a11 a8 : Int} {u12 : Option Value} (S : wS h) (z1 : x1.toInt = a1) (z2 : x2.toInt = a2) (z3 : x3.toInt = a3) (z4 : x4.toInt = a4) (z5 : x5.toInt = a5) (z6 : x6.toInt = a6) (z7 : x7.toInt = a7) (z8 : x8.toInt = a8) (z10 : x10.toInt = a10) (z11 : x11.toInt = a11) (H : ∀ h_21 : aH, wS h_21 → vw h_21 = up (up (up (vw h) 128 4 a10) 128 5 (w32 (a10 - (w32 (jDiv (w64 (a10 * (min 100 (vw h 124 7)))) 100))))) 128 0 (w32 (a10 - (w32 (jDiv (w64 (a10 * (min 100 (vw h 124 7)))) 100)))) → P (w32 (a10 - (w32 (jDiv (w64 (a10 * (min 100 (vw h 124 7)))) 100)))) h_21) : Pt (n + 1) X zM277 318 [some (.ref 72), some (.int x1), some (.int x2), some (.int x3), some (.int x4), some (.int x5), some (.int x6), some (.int x7), some (.long x8), none, some (.int x10), some (.int x11), u12] [] h (qI P) := by
  refine pt_1 (fun n d => r_aloadn gx277_318 rfl) ?_
  refine pt_d (pt_getR gx277_319 S tr_72_74 ?_)
  refine pt_d (pt_iconst gx277_322 (fun v2 h2 => ?_))
  refine pt_d (pt_1 (fun n d => r_iload gx277_323 rfl) ?_)
  refine pt_d (pt_iast (N' := 6) gx277_325 S tl_128 h2 z10 (fun h_3 S3 p3 q3 e3 => ?_))
  refine pt_d (pt_1 (fun n d => r_iload gx277_326 rfl) ?_)
  refine pt_d (pt_1 (fun n d => r_iload gx277_328 rfl) ?_)
  refine pt_d (pt_i2l gx277_330 z10 (fun v4 h4 => ?_))
  refine pt_d (pt_bipush gx277_331 (fun v5 h5 => ?_))
  refine pt_d (pt_1 (fun n d => r_aloadn gx277_333 rfl) ?_)
  refine pt_d (pt_getR gx277_334 S3 tr_72_69 ?_)
  refine pt_d (pt_bipush gx277_337 (fun v7 h7 => ?_))
  refine pt_d (pt_iald (N' := 13) gx277_339 S3 tl_124 h7 (fun v8 p8 q8 h8 => ?_))
  have h8 : v8.toInt = vw h 124 7 := by rw [h8, e3, up_c (by decide)]
  refine pt_d (pt_stat (as := [.int v5, .int v8]) (r := [.long v4, .int x10]) gx277_340 rfl (show zmt[211]? = some zM211 from rfl) rfl rfl rfl rfl (c_211 S3 h5 h8) (kqP (fun v9 h9 => ?_)))
  show Pt _ _ _ 343 _ [.int v9, .long v4, .int x10] _ _
  refine pt_d (pt_i2l gx277_343 h9 (fun v10 h10 => ?_))
  refine pt_d (pt_lmul gx277_344 h4 h10 (fun v11 h11 => ?_))
  refine pt_d (pt_ldc2_w (c := 100) gx277_345 rfl (fun v12 h12 => ?_))
  refine pt_d (pt_ldiv gx277_348 h11 h12 (fun v13 h13 => ?_))
  refine pt_d (pt_l2i gx277_349 h13 (fun v14 h14 => ?_))
  refine pt_d (pt_isub gx277_350 z10 h14 (fun v15 h15 => ?_))
  refine pt_d (pt_1 (fun n d => r_istore (L' := [some (.ref 72), some (.int x1), some (.int x2), some (.int x3), some (.int x4), some (.int x5), some (.int x6), some (.int x7), some (.long x8), none, some (.int v15), some (.int x11), u12]) gx277_351 rfl rfl) ?_)
  refine pt_d (pt_1 (fun n d => r_aloadn gx277_353 rfl) ?_)
  refine pt_d (pt_getR gx277_354 S3 tr_72_74 ?_)
  refine pt_d (pt_iconst gx277_357 (fun v17 h17 => ?_))
  refine pt_d (pt_1 (fun n d => r_iload gx277_358 rfl) ?_)
  refine pt_d (pt_iast (N' := 6) gx277_360 S3 tl_128 h17 h15 (fun h_18 S18 p18 q18 e18 => ?_))
  refine pt_d (pt_1 (fun n d => r_aloadn gx277_361 rfl) ?_)
  refine pt_d (pt_getR gx277_362 S18 tr_72_74 ?_)
  refine pt_d (pt_iconst gx277_365 (fun v20 h20 => ?_))
  refine pt_d (pt_1 (fun n d => r_iload gx277_366 rfl) ?_)
  refine pt_d (pt_iast (N' := 6) gx277_368 S18 tl_128 h20 h15 (fun h_21 S21 p21 q21 e21 => ?_))
  refine pt_d (pt_1 (fun n d => r_iload gx277_369 rfl) ?_)
  have H := H h_21 S21 (by rw [e21, e18, e3])
  exact pt_d (pt_iret gx277_371 ⟨_, rfl, by rw [h15]; exact H⟩)
-- what the reference's payment leaves
def fr8 (V W : vS) : Prop := ∀ (c : Nat) j, (c < 124 ∨ 128 < c) → (c ≠ 72 ∨ (j ≠ 71 ∧ j ≠ 75)) → W c j = V c j
theorem fr8_t {V V1 W : vS} (a : fr8 V V1) (b : fr8 V1 W) : fr8 V W := fun c j u v => (b c j u v).trans (a c j u v)
theorem fr8_u {V : vS} {c : Nat} {i v : Int} (h : (c = 72 ∧ (i = 71 ∨ i = 75)) ∨ c = 124 ∨ c = 128) : fr8 V (up V c i v) := fun c' j u w => by
  by_cases e : c' = c
  · subst e
    exact up_j (by omega)
  · exact up_c e
theorem fr8_9 {V W : vS} {t y : Int} (k : R269 V t y W) : fr8 V W := fun c j u v => k.2.2 c j (by omega) (fun e => by omega)
theorem fr8_p {V W : vS} (a : fr8 V W) : pag V W := fun c j u _ => a c j (by omega) (Or.inl (by omega))
-- what the texts need
def TMx (V : vS) : Prop := JTxt V ∧ ∀ t, 0 ≤ t → t < V 33 7 → pre269 V t
def fgx (V W : vS) : Prop := ∀ (c : Nat) j, (c < 103 ∨ 110 < c) → c < 124 → (c ≠ 72 ∨ (j ≠ 38 ∧ j ≠ 39 ∧ j ≠ 71 ∧ j ≠ 75)) → W c j = V c j
theorem fgx_8 {V W : vS} (a : fr8 V W) : fgx V W := fun c j _ v w => a c j (Or.inl v) (by omega)
theorem fgx_t {V V1 W : vS} (a : fgx V V1) (b : fgx V1 W) : fgx V W := fun c j u v w => (b c j u v w).trans (a c j u v w)
theorem fgx_p {V W : vS} (a : fgx V W) : pag V W := fun c j u _ => a c j (by omega) (by omega) (Or.inl (by omega))
theorem JTxt_g {V W : vS} (a : fgx V W) (J : JTxt V) : JTxt W := by
  unfold JTxt at *
  rw [a 33 1 (by decide) (by decide) (Or.inl (by decide)), a 72 54 (by decide) (by decide) (by decide), a 33 7 (by decide) (by decide) (Or.inl (by decide)), a 72 55 (by decide) (by decide) (by decide)]
  refine ⟨J.1, fun j j0 j1 => ?_, J.2.2.1, fun i i0 i1 => ?_⟩
  · rw [a 34 j (by decide) (by decide) (Or.inl (by decide)), a 115 j (by decide) (by decide) (Or.inl (by decide))]
    exact J.2.1 j j0 j1
  · rw [a 37 i (by decide) (by decide) (Or.inl (by decide)), a 38 i (by decide) (by decide) (Or.inl (by decide)), a 39 i (by decide) (by decide) (Or.inl (by decide)), a 116 i (by decide) (by decide) (Or.inl (by decide)), a 117 i (by decide) (by decide) (Or.inl (by decide)), a 118 i (by decide) (by decide) (Or.inl (by decide))]
    exact J.2.2.2 i i0 i1
theorem TMx_g {V W : vS} (a : fgx V W) (T : TMx V) : TMx W := by
  refine ⟨JTxt_g a T.1, fun t t0 t1 => ?_⟩
  rw [a 33 7 (by decide) (by decide) (Or.inl (by decide))] at t1
  obtain ⟨b1, b2, ls, b3, b4⟩ := T.2 t t0 t1
  exact ⟨b1, by rw [a 119 t (by decide) (by decide) (Or.inl (by decide))]; exact b2, ls, by rw [oT_p (fgx_p a)]; exact b3, lAtR_k ls 0 0 (a 119 t (by decide) (by decide) (Or.inl (by decide))) (fun j _ _ => ⟨a 120 _ (by decide) (by decide) (Or.inl (by decide)), a 121 _ (by decide) (by decide) (Or.inl (by decide))⟩) (fun j _ => ⟨a 122 j (by decide) (by decide) (Or.inl (by decide)), a 123 j (by decide) (by decide) (Or.inl (by decide))⟩) b4⟩
theorem TMx_8 {V W : vS} (a : fr8 V W) (T : TMx V) : TMx W := TMx_g (fgx_8 a) T
theorem p275_g {V W : vS} (a : fgx V W) (p : p275 V) : p275 W := by
  obtain ⟨J, p2, p3, p4, p5, p6⟩ := p
  have e11 := a 1 1 (by decide) (by decide) (Or.inl (by decide))
  have e14 := a 1 4 (by decide) (by decide) (Or.inl (by decide))
  have e2 := fun j => a 2 j (by decide) (by decide) (Or.inl (by decide))
  have e3 := fun j => a 3 j (by decide) (by decide) (Or.inl (by decide))
  have e6 := fun j => a 6 j (by decide) (by decide) (Or.inl (by decide))
  refine ⟨JPer_ag J ⟨e11, e14, e2, e3, e6, trivial⟩, by rw [e11, a 72 2 (by decide) (by decide) (by decide)]; exact p2, fun j => by rw [e2, a 73 j (by decide) (by decide) (Or.inl (by decide))]; exact p3 j, fun b u v w => ?_, by rw [a 72 14 (by decide) (by decide) (by decide)]; exact p5, by rw [e14]; exact p6⟩
  rw [e11] at v
  rw [e2] at w
  rw [e3, a 79 b (by decide) (by decide) (Or.inl (by decide))]
  exact p4 b u v w
theorem TMx_n {V : vS} (T : TMx V) : 0 ≤ V 72 55 ∧ V 72 55 ≤ 16 := by
  obtain ⟨-, -, ⟨j5, j6, j7⟩, -⟩ := T.1
  omega
theorem TMx_f {V : vS} (T : TMx V) {w y t r : Int} (k : R265 V w y t r) : (r < 0 ∧ stg V 37 38 39 w y t (V 33 7).toNat = -1) ∨ (0 ≤ r ∧ stg V 37 38 39 w y t (V 33 7).toNat = r ∧ r ≠ -1 ∧ pre269 V r) := by
  obtain ⟨⟨j1, j2, j3⟩, j4, ⟨j5, j6, j7⟩, j8⟩ := T.1
  have e := stg_e (V := V) (w := w) (y := y) (d := t) (V 33 7).toNat (fun i hi => j8 (i : Int) (by omega) (by omega))
  unfold R265 at k
  rw [← j5, ← e] at k
  rcases k with ⟨k1, k2⟩ | ⟨k1, k2⟩
  · exact Or.inl ⟨by omega, k1⟩
  · rcases stg_r (V := V) (cw := 37) (cy := 38) (cd := 39) (w := w) (y := y) (d := t) (V 33 7).toNat with z | z
    · exact absurd z k1
    · rw [← k2] at z
      exact Or.inr ⟨z.1, k2.symm, by omega, T.2 r z.1 (by omega)⟩
theorem fnd_0 {s : Int} (h : -2147483648 ≤ s ∧ s ≤ 2147483647) : w32 (s - w32 (jDiv (w64 (w64 (s * 0) + 99)) 100)) = s := by
  rw [Int.mul_zero, show w64 0 = 0 by decide, show w64 (0 + 99) = 99 by decide, jDiv_pos (by decide) (by decide) (by decide) (by decide), show (99 : Int) / 100 = 0 by decide, show w32 0 = 0 by decide, Int.sub_zero, w32_id h.1 h.2]
section M277
variable {X : aX} {x1 x2 x3 x4 x5 x6 x7 : Int32} {x8 : Int64} {f y t l : Int}
abbrev o277 (V : vS) (s4 : Int) (r : Int) (W : vS) : Prop := (W 128 4 = s4 ∧ W 128 5 = r ∧ W 128 0 = r) ∧ (∀ j, (j = 1 ∨ j = 2 ∨ j = 3) → W 128 j = V 128 j)
theorem m_318 {n : Nat} {h : aH} {x10 x11 : Int32} {u12 : Option Value} {s : Int} (S : wS h) (z10 : x10.toInt = s) : Pt n X zM277 318 [some (.ref 72), some (.int x1), some (.int x2), some (.int x3), some (.int x4), some (.int x5), some (.int x6), some (.int x7), some (.long x8), none, some (.int x10), some (.int x11), u12] [] h (qI (fun r h' => wS h' ∧ r = s5F (fun j => vw h 124 j) s ∧ o277 (vw h) s r (vw h') ∧ ∀ (c : Nat) j, c ≠ 128 → vw h' c j = vw h c j)) := by
  refine pt_d (d277_318 S rfl rfl rfl rfl rfl rfl rfl rfl z10 rfl (fun g S2 eg => ⟨S2, rfl, ⟨⟨?_, ?_, ?_⟩, fun j z => ?_⟩, fun c j z => ?_⟩))
  · rw [eg, up_j (by decide), up_j (by decide), up_s]
  · rw [eg, up_j (by decide), up_s]
  · rw [eg, up_s]
  · rw [eg, up_j (by omega), up_j (by omega), up_j (by omega)]
  · rw [eg, up_c z, up_c z, up_c z]
theorem m_287 {n : Nat} {h : aH} {x10 x11 : Int32} {u12 : Option Value} {s v : Int} (S : wS h) (z10 : x10.toInt = s) (z11 : x11.toInt = max 0 (min 100 v)) (h11 : vw h 124 11 = 0 ∨ vw h 124 11 = 1) : Pt n X zM277 287 [some (.ref 72), some (.int x1), some (.int x2), some (.int x3), some (.int x4), some (.int x5), some (.int x6), some (.int x7), some (.long x8), none, some (.int x10), some (.int x11), u12] [] h (qI (fun r h' => wS h' ∧ r = s5F (fun j => vw h 124 j) (fnd s v (vw h 124 11)) ∧ o277 (vw h) (fnd s v (vw h 124 11)) r (vw h') ∧ ∀ (c : Nat) j, c ≠ 128 → vw h' c j = vw h c j)) := by
  refine pt_d (d277_287 S rfl rfl rfl rfl rfl rfl rfl rfl z10 z11 ⟨fun n0 u => ?_, fun e0 w10 u g10 => ?_⟩)
  · have e : fnd s v (vw h 124 11) = s := by
      unfold fnd
      rw [if_pos (by omega)]
    rw [e]
    exact m_318 S z10
  · have e : fnd s v (vw h 124 11) = w10.toInt := by
      unfold fnd
      rw [if_neg (by omega), g10]
    rw [e]
    exact m_318 S rfl
theorem m_212 {n : Nat} {h : aH} {x10 : Int32} {u11 : Option Value} {s : Int} {N : Int → Int} (S : wS h) (z1 : x1.toInt = f) (z2 : x2.toInt = y) (z3 : x3.toInt = t) (z5 : x5.toInt = 10 * l) (z10 : x10.toInt = s) (hl : vw h 3 f = l ∧ 0 ≤ l ∧ l ≤ 3) (T : TMx (vw h)) (hN : ∀ j, j ≠ 10 → vw h 124 j = N j) (hN10 : N 10 = 0) (h11 : N 11 = 0 ∨ N 11 = 1) : Pt n X zM277 212 [some (.ref 72), some (.int x1), some (.int x2), some (.int x3), some (.int x4), some (.int x5), some (.int x6), some (.int x7), some (.long x8), none, some (.int x10), u11, none] [] h (qI (fun r h' => wS h' ∧ (∃ s4, s4 = s4F (vw h) N f y t s ∧ r = s5F N s4 ∧ (vw h' 128 3 = s ∧ vw h' 128 4 = s4 ∧ vw h' 128 5 = r ∧ vw h' 128 0 = r) ∧ (vw h' 128 1 = vw h 128 1 ∧ vw h' 128 2 = vw h 128 2)) ∧ vw h' 72 75 = lin (vw h) N (TT (vw h) f y t 3) ∧ fr8 (vw h) (vw h'))) := by
  obtain ⟨hl, l0, l3⟩ := hl
  have eu : w32 (10 * l + 3) = 10 * l + 3 := w32_id (by omega) (by omega)
  have r10 := iR x10
  refine pt_d (d277_212 S z1 z2 z3 rfl z5 rfl rfl rfl z10 (fun h7 S7 e7 => ?_))
  have a7 : fr8 (vw h) (vw h7) := by rw [e7]; exact fr8_t (fr8_u (by decide)) (fr8_u (by decide))
  have T7 := TMx_8 a7 T
  rw [eu]
  refine ⟨TMx_n T7, fun y10 h10 k10 => ?_⟩
  obtain ⟨S10, rfl, k10⟩ := k10
  have n7 : ∀ j, vw h10 124 j = N j := fun j => by
    rw [e7, up_c (by decide), up_p]
    by_cases z : j = 10
    · rw [if_pos z, z, hN10]
    · rw [if_neg z, hN j z]
  have p7 := fr8_p a7
  have tt : stg (vw h10) 37 38 39 (10 * l + 3) y t (vw h10 33 7).toNat = TT (vw h) f y t 3 := by
    have := TT_k p7 f y t 3
    unfold TT at this ⊢
    rw [← this, p7 3 f (by decide) (Or.inl (by decide)), hl]
  have x7 : ∀ j, (j = 1 ∨ j = 2) → vw h10 128 j = vw h 128 j := fun j z => by rw [e7, up_j (by omega), up_c (by decide)]
  have s7 : vw h10 128 3 = s := by rw [e7, up_s]
  -- the end, from the fine on
  have fin' : ∀ (g : aH) (w7 w11 : Int32) (u : Option Value) (v : Int), wS g → fr8 (vw h10) (vw g) → (∀ j, vw g 124 j = N j) → (∀ j, vw g 128 j = vw h10 128 j) → w11.toInt = max 0 (min 100 v) → fnd s v (N 11) = s4F (vw h) N f y t s → vw g 72 75 = lin (vw h) N (TT (vw h) f y t 3) → Pt n X zM277 287 [some (.ref 72), some (.int x1), some (.int x2), some (.int x3), some (.int x4), some (.int x5), some (.int x6), some (.int w7), some (.long x8), none, some (.int x10), some (.int w11), u] [] g (qI (fun r h' => wS h' ∧ (∃ s4, s4 = s4F (vw h) N f y t s ∧ r = s5F N s4 ∧ (vw h' 128 3 = s ∧ vw h' 128 4 = s4 ∧ vw h' 128 5 = r ∧ vw h' 128 0 = r) ∧ (vw h' 128 1 = vw h 128 1 ∧ vw h' 128 2 = vw h 128 2)) ∧ vw h' 72 75 = lin (vw h) N (TT (vw h) f y t 3) ∧ fr8 (vw h) (vw h'))) := by
    intro g w7 w11 u v Sg Fg gN g128 g11 es gl
    refine pt_q (m_287 (v := v) Sg z10 g11 (by rw [gN]; exact h11)) ?_
    rintro v' h' ⟨x, ex, q1, q2, ⟨⟨q3, q4, q5⟩, q6⟩, q7⟩
    have eN : (fun j => vw g 124 j) = N := funext gN
    rw [eN, gN, es] at q2
    rw [gN, es] at q3
    refine ⟨x, ex, q1, ⟨_, rfl, q2, ⟨?_, q3, q4, q5⟩, ?_, ?_⟩, ?_, fun c j c1 c2 => ?_⟩
    · rw [q6 3 (by omega), g128]
      exact s7
    · rw [q6 1 (by omega), g128]
      exact x7 1 (by omega)
    · rw [q6 2 (by omega), g128]
      exact x7 2 (by omega)
    · rw [q7 72 75 (by decide)]
      exact gl
    · rw [q7 c j (by omega), Fg c j c1 c2, a7 c j c1 c2]
  refine ⟨fun ne h13 S13 e13 w7 w11 u _ g11 => ?_, fun ge h13 S13 e13 => ?_⟩
  · have e1 : TT (vw h) f y t 3 = -1 := by
      rcases TMx_f T7 k10 with z | z
      · rw [← tt]; exact z.2
      · omega
    refine fin' h13 w7 w11 u 0 S13 (by rw [e13]; exact fr8_u (by decide)) (fun j => by rw [e13, up_c (by decide)]; exact n7 j) (fun j => by rw [e13, up_c (by decide)]) (by rw [g11]; decide) ?_ (by rw [e13, up_s]; unfold lin; rw [if_pos e1])
    unfold s4F fin fnd
    rw [if_pos e1]
    split
    · rfl
    · exact fnd_0 (by rw [← z10]; exact r10)
  · obtain ⟨e1, e2, p9⟩ : TT (vw h) f y t 3 = y10 ∧ y10 ≠ -1 ∧ pre269 (vw h10) y10 := by
      rcases TMx_f T7 k10 with z | z
      · omega
      · exact ⟨by rw [← tt]; exact z.2.1, z.2.2⟩
    have a13 : fr8 (vw h10) (vw h13) := by rw [e13]; exact fr8_u (by decide)
    have T13 := TMx_8 a13 T7
    refine ⟨T13.2 y10 ge (by
      rw [a13 33 7 (by decide) (by decide)]
      have k := stg_r (V := vw h10) (cw := 37) (cy := 38) (cd := 39) (w := 10 * l + 3) (y := y) (d := t) (vw h10 33 7).toNat
      rw [tt, e1] at k
      omega), fun y15 h15 k15 => ?_⟩
    obtain ⟨S15, k15⟩ := k15
    have o13 : oT (vw h13) y10 = oT (vw h) y10 := (oT_p (fr8_p a13) y10).trans (oT_p p7 y10)
    have eN : (fun j => vw h13 124 j) = N := funext fun j => by rw [e13, up_c (by decide)]; exact n7 j
    have k1 := k15.1
    have k2 := k15.2.1
    rw [o13, eN] at k1 k2
    have a15 := fr8_9 k15
    have g15 : ∀ j, vw h15 124 j = N j := fun j => by rw [k15.2.2 124 j (by decide) (fun e => absurd e (by decide))]; exact congrFun eN j
    have g128 : ∀ j, vw h15 128 j = vw h10 128 j := fun j => by rw [k15.2.2 128 j (by decide) (fun e => absurd e (by decide)), e13, up_c (by decide)]
    have sF : s4F (vw h) N f y t s = fnd s y15 (N 11) := by
      unfold s4F fin
      rw [e1, if_neg e2, ← k1]
    have lF : lin (vw h) N (TT (vw h) f y t 3) = vw h15 72 71 := by
      unfold lin
      rw [e1, if_neg e2, ← k2]
    refine ⟨fun p h17 S17 e17 w7 w11 u _ g11 => ?_, fun ng h17 S17 e17 w7 w11 u _ g11 => ?_⟩
    · exact fin' h17 w7 w11 u y15 S17 (by rw [e17]; exact fr8_t a13 (fr8_t a15 (fr8_u (by decide)))) (fun j => by rw [e17, up_c (by decide)]; exact g15 j) (fun j => by rw [e17, up_c (by decide)]; exact g128 j) (by rw [g11]; omega) sF.symm (by rw [e17, up_s]; exact lF.symm)
    · exact fin' h17 w7 w11 u y15 S17 (by rw [e17]; exact fr8_t a13 (fr8_t a15 (fr8_u (by decide)))) (fun j => by rw [e17, up_c (by decide)]; exact g15 j) (fun j => by rw [e17, up_c (by decide)]; exact g128 j) (by rw [g11]; omega) sF.symm (by rw [e17, up_s]; exact lF.symm)
theorem m_152 {n : Nat} {h : aH} {x10 : Int32} {s : Int} {N : Int → Int} (S : wS h) (z1 : x1.toInt = f) (z2 : x2.toInt = y) (z3 : x3.toInt = t) (z5 : x5.toInt = 10 * l) (z10 : x10.toInt = s) (s0 : 0 ≤ s) (hl : vw h 3 f = l ∧ 0 ≤ l ∧ l ≤ 3) (T : TMx (vw h)) (hN : ∀ j, vw h 124 j = N j) (hN10 : N 10 = 0) (h11 : N 11 = 0 ∨ N 11 = 1) : Pt n X zM277 152 [some (.ref 72), some (.int x1), some (.int x2), some (.int x3), some (.int x4), some (.int x5), some (.int x6), some (.int x7), some (.long x8), none, some (.int x10), none, none] [] h (qI (fun r h' => wS h' ∧ (∃ s3 s4, s3 = s3F (vw h) N f y t s ∧ s4 = s4F (vw h) N f y t s3 ∧ r = s5F N s4 ∧ (vw h' 128 2 = s ∧ vw h' 128 3 = s3 ∧ vw h' 128 4 = s4 ∧ vw h' 128 5 = r ∧ vw h' 128 0 = r) ∧ vw h' 128 1 = vw h 128 1) ∧ vw h' 72 75 = lin (vw h) N (TT (vw h) f y t 3) ∧ fr8 (vw h) (vw h'))) := by
  obtain ⟨hl, l0, l3⟩ := hl
  have eu : w32 (10 * l + 2) = 10 * l + 2 := w32_id (by omega) (by omega)
  refine pt_d (d277_152 S z1 z2 z3 rfl z5 rfl rfl rfl z10 (fun h3 S3 e3 => ?_))
  have a3 : fr8 (vw h) (vw h3) := by rw [e3]; exact fr8_u (by decide)
  have T3 := TMx_8 a3 T
  rw [eu]
  refine ⟨TMx_n T3, fun y6 h6 k6 => ?_⟩
  obtain ⟨S6, rfl, k6⟩ := k6
  have p3 := fr8_p a3
  have tt : stg (vw h6) 37 38 39 (10 * l + 2) y t (vw h6 33 7).toNat = TT (vw h) f y t 2 := by
    have := TT_k p3 f y t 2
    unfold TT at this ⊢
    rw [← this, p3 3 f (by decide) (Or.inl (by decide)), hl]
  have go : ∀ (g : aH) (w7 w10 : Int32) (u : Option Value) (v : Int), wS g → fr8 (vw h6) (vw g) → (∀ j, j ≠ 10 → vw g 124 j = N j) → (∀ j, vw g 128 j = vw h6 128 j) → w10.toInt = v → v = s3F (vw h) N f y t s → Pt n X zM277 212 [some (.ref 72), some (.int x1), some (.int x2), some (.int x3), some (.int x4), some (.int x5), some (.int x6), some (.int w7), some (.long x8), none, some (.int w10), u, none] [] g (qI (fun r h' => wS h' ∧ (∃ s3 s4, s3 = s3F (vw h) N f y t s ∧ s4 = s4F (vw h) N f y t s3 ∧ r = s5F N s4 ∧ (vw h' 128 2 = s ∧ vw h' 128 3 = s3 ∧ vw h' 128 4 = s4 ∧ vw h' 128 5 = r ∧ vw h' 128 0 = r) ∧ vw h' 128 1 = vw h 128 1) ∧ vw h' 72 75 = lin (vw h) N (TT (vw h) f y t 3) ∧ fr8 (vw h) (vw h'))) := by
    intro g w7 w10 u v Sg Fg gN g128 g10 ev
    have ag := fr8_t a3 Fg
    refine pt_q (m_212 (N := N) (l := l) Sg z1 z2 z3 z5 g10 ⟨by rw [ag 3 f (by decide) (Or.inl (by decide))]; exact hl, l0, l3⟩ (TMx_8 ag T) gN hN10 h11) ?_
    rintro v' h' ⟨x, ex, q1, ⟨s4, q2, q3, ⟨q4, q5, q6, q7⟩, q8, q9⟩, q10, q11⟩
    refine ⟨x, ex, q1, ⟨_, s4, ev, ?_, q3, ⟨?_, q4, q5, q6, q7⟩, ?_⟩, ?_, fr8_t ag q11⟩
    · rw [q2, s4_k (fr8_p ag) (N' := N) (fun _ _ _ => rfl)]
    · rw [q9, g128, e3, up_s]
    · rw [q8, g128, e3, up_j (by decide)]
    · rw [q10, sL_k (fr8_p ag) (N' := N) (fun _ _ _ => rfl)]
  refine ⟨fun ne h9 S9 e9 w7 u _ => ?_, fun ge h9 S9 e9 => ?_⟩
  · have e1 : TT (vw h) f y t 2 = -1 := by
      rcases TMx_f T3 k6 with z | z
      · rw [← tt]; exact z.2
      · omega
    refine go h9 w7 x10 u s S9 (by rw [e9]; exact fr8_u (by decide)) (fun j z => by rw [e9, up_j z, e3, up_c (by decide)]; exact hN j) (fun j => by rw [e9, up_c (by decide)]) z10 ?_
    unfold s3F spF
    rw [if_pos e1]
  · obtain ⟨e1, e2, p9⟩ : TT (vw h) f y t 2 = y6 ∧ y6 ≠ -1 ∧ pre269 (vw h6) y6 := by
      rcases TMx_f T3 k6 with z | z
      · omega
      · exact ⟨by rw [← tt]; exact z.2.1, z.2.2⟩
    have a9 : fr8 (vw h6) (vw h9) := by rw [e9]; exact fr8_u (by decide)
    have T9 := TMx_8 a9 T3
    refine ⟨T9.2 y6 ge (by
      rw [a9 33 7 (by decide) (by decide)]
      have k := stg_r (V := vw h6) (cw := 37) (cy := 38) (cd := 39) (w := 10 * l + 2) (y := y) (d := t) (vw h6 33 7).toNat
      rw [tt, e1] at k
      omega), fun y11 h11' k11 => ?_⟩
    obtain ⟨S11, k11⟩ := k11
    have o9 : oT (vw h9) y6 = oT (vw h) y6 := (oT_p (fr8_p a9) y6).trans (oT_p p3 y6)
    have eN : (fun j => vw h9 124 j) = Nm N s := funext fun j => by
      rw [e9, up_p]
      unfold Nm
      by_cases z : j = 10
      · rw [if_pos z, if_pos z]
      · rw [if_neg z, if_neg z, e3, up_c (by decide)]
        exact hN j
    have k1 := k11.1
    rw [o9, eN] at k1
    have g9 : ∀ j, j ≠ 10 → vw h11' 124 j = N j := fun j z => by
      rw [k11.2.2 124 j (by decide) (fun e => absurd e (by decide)), congrFun eN j]
      exact if_neg z
    have g128 : ∀ j, vw h11' 128 j = vw h6 128 j := fun j => by rw [k11.2.2 128 j (by decide) (fun e => absurd e (by decide)), e9, up_c (by decide)]
    have sF : s3F (vw h) N f y t s = max 0 (min s y11) := by
      unfold s3F spF
      rw [e1, if_neg e2, ← k1]
    refine ⟨fun p w7 w10 u _ g10 => go h11' w7 w10 u _ S11 (fr8_t a9 (fr8_9 k11)) g9 g128 g10 ?_, fun ng w7 w10 u _ g10 => go h11' w7 w10 u _ S11 (fr8_t a9 (fr8_9 k11)) g9 g128 g10 ?_⟩
    · rw [sF]
      omega
    · rw [sF]
      omega
theorem grn_0 {s v : Int} (h : 0 ≤ s) : 0 ≤ grn s v := by
  unfold grn
  split
  · exact h
  · exact (hel_b _).1
theorem m_98 {n : Nat} {h : aH} {x10 : Int32} {s : Int} {N : Int → Int} (S : wS h) (z1 : x1.toInt = f) (z2 : x2.toInt = y) (z3 : x3.toInt = t) (z5 : x5.toInt = 10 * l) (z10 : x10.toInt = s) (s0 : 0 ≤ s) (hl : vw h 3 f = l ∧ 0 ≤ l ∧ l ≤ 3) (T : TMx (vw h)) (hN : ∀ j, vw h 124 j = N j) (hN10 : N 10 = 0) (h11 : N 11 = 0 ∨ N 11 = 1) : Pt n X zM277 98 [some (.ref 72), some (.int x1), some (.int x2), some (.int x3), some (.int x4), some (.int x5), some (.int x6), some (.int x7), some (.long x8), none, some (.int x10), none, none] [] h (qI (fun r h' => wS h' ∧ (∃ s2 s3 s4, s2 = s2F (vw h) N f y t s ∧ s3 = s3F (vw h) N f y t s2 ∧ s4 = s4F (vw h) N f y t s3 ∧ r = s5F N s4 ∧ (vw h' 128 1 = s ∧ vw h' 128 2 = s2 ∧ vw h' 128 3 = s3 ∧ vw h' 128 4 = s4 ∧ vw h' 128 5 = r ∧ vw h' 128 0 = r)) ∧ vw h' 72 75 = lin (vw h) N (TT (vw h) f y t 3) ∧ fr8 (vw h) (vw h'))) := by
  obtain ⟨hl, l0, l3⟩ := hl
  have eu : w32 (10 * l + 1) = 10 * l + 1 := w32_id (by omega) (by omega)
  refine pt_d (d277_98 S z1 z2 z3 rfl z5 rfl rfl rfl z10 (fun h3 S3 e3 => ?_))
  have a3 : fr8 (vw h) (vw h3) := by rw [e3]; exact fr8_u (by decide)
  have T3 := TMx_8 a3 T
  rw [eu, Int.mul_comm 3 s]
  refine ⟨TMx_n T3, fun y6 h6 k6 => ?_⟩
  obtain ⟨S6, rfl, k6⟩ := k6
  have p3 := fr8_p a3
  have n6 : ∀ j, vw h6 124 j = N j := fun j => by rw [e3, up_c (by decide)]; exact hN j
  have tt : stg (vw h6) 37 38 39 (10 * l + 1) y t (vw h6 33 7).toNat = TT (vw h) f y t 1 := by
    have := TT_k p3 f y t 1
    unfold TT at this ⊢
    rw [← this, p3 3 f (by decide) (Or.inl (by decide)), hl]
  have go : ∀ (g : aH) (w7 w10 : Int32) (v : Int), wS g → fr8 (vw h6) (vw g) → (∀ j, vw g 124 j = N j) → (∀ j, vw g 128 j = vw h6 128 j) → w10.toInt = v → v = s2F (vw h) N f y t s → Pt n X zM277 152 [some (.ref 72), some (.int x1), some (.int x2), some (.int x3), some (.int x4), some (.int x5), some (.int x6), some (.int w7), some (.long x8), none, some (.int w10), none, none] [] g (qI (fun r h' => wS h' ∧ (∃ s2 s3 s4, s2 = s2F (vw h) N f y t s ∧ s3 = s3F (vw h) N f y t s2 ∧ s4 = s4F (vw h) N f y t s3 ∧ r = s5F N s4 ∧ (vw h' 128 1 = s ∧ vw h' 128 2 = s2 ∧ vw h' 128 3 = s3 ∧ vw h' 128 4 = s4 ∧ vw h' 128 5 = r ∧ vw h' 128 0 = r)) ∧ vw h' 72 75 = lin (vw h) N (TT (vw h) f y t 3) ∧ fr8 (vw h) (vw h'))) := by
    intro g w7 w10 v Sg Fg gN g128 g10 ev
    have ag := fr8_t a3 Fg
    have pg := fr8_p ag
    refine pt_q (m_152 (N := N) (l := l) Sg z1 z2 z3 z5 g10 (by rw [ev]; exact grn_0 s0) ⟨by rw [ag 3 f (by decide) (Or.inl (by decide))]; exact hl, l0, l3⟩ (TMx_8 ag T) gN hN10 h11) ?_
    rintro v' h' ⟨x, ex, q1, ⟨s3, s4, q2, q2', q3, ⟨q4, q5, q6, q7, q8⟩, q9⟩, q10, q11⟩
    refine ⟨x, ex, q1, ⟨_, s3, s4, ev, ?_, ?_, q3, ⟨?_, q4, q5, q6, q7, q8⟩⟩, ?_, fr8_t ag q11⟩
    · rw [q2, s3_k pg (N' := N) (fun _ _ _ => rfl)]
    · rw [q2', s4_k pg (N' := N) (fun _ _ _ => rfl)]
    · rw [q9, g128, e3, up_s]
    · rw [q10, sL_k pg (N' := N) (fun _ _ _ => rfl)]
  refine ⟨fun ne w7 w10 _ g10 => go h6 w7 w10 _ S6 (fun _ _ _ _ => rfl) n6 (fun _ => rfl) g10 ?_, fun ge => ?_⟩
  · have e1 : TT (vw h) f y t 1 = -1 := by
      rcases TMx_f T3 k6 with z | z
      · rw [← tt]; exact z.2
      · omega
    unfold s2F tv grn
    rw [if_pos e1, if_neg (by decide)]
  · obtain ⟨e1, e2, p9⟩ : TT (vw h) f y t 1 = y6 ∧ y6 ≠ -1 ∧ pre269 (vw h6) y6 := by
      rcases TMx_f T3 k6 with z | z
      · omega
      · exact ⟨by rw [← tt]; exact z.2.1, z.2.2⟩
    refine ⟨p9, fun y16 h16 k16 => ?_⟩
    obtain ⟨S16, k16⟩ := k16
    have eN : (fun j => vw h6 124 j) = N := funext n6
    have k1 := k16.1
    rw [oT_p p3, eN] at k1
    have g9 : ∀ j, vw h16 124 j = N j := fun j => by rw [k16.2.2 124 j (by decide) (fun e => absurd e (by decide))]; exact n6 j
    have g128 : ∀ j, vw h16 128 j = vw h6 128 j := fun j => k16.2.2 128 j (by decide) (fun e => absurd e (by decide))
    refine ⟨fun e0 w7 _ => go h16 w7 x10 _ S16 (fr8_9 k16) g9 g128 z10 ?_, fun n0 w7 w10 _ g10 => go h16 w7 w10 _ S16 (fr8_9 k16) g9 g128 g10 ?_⟩
    · unfold s2F tv grn
      rw [e1, if_neg e2, ← k1, if_pos e0]
    · unfold s2F tv grn
      rw [e1, if_neg e2, ← k1, if_neg n0]
end M277
-- the whole
def pM (V : vS) (f y r : Int) : Prop := (q239 V ∧ (0 ≤ V 72 2 ∧ V 72 2 ≤ 150) ∧ V 72 14 ≤ 200 ∧ 0 ≤ y ∧ y ≤ 9) ∧ (0 ≤ f ∧ f < 150) ∧ TMx V ∧ p275 V ∧ (V 74 f = V 3 f ∧ 0 ≤ V 3 f ∧ V 3 f ≤ 3) ∧ JHand V ∧ (∀ j, V 7 j = V 75 j) ∧ (r = -1 ∨ (0 ≤ r ∧ r < V 33 7))
def R277 (V : vS) (f y t r v : Int) (W : vS) : Prop := ∃ W1, R272 V f y t W1 ∧ PAID V (fun j => W1 124 j) f y t r (fun j => W 128 j) (W 72 75) ∧ v = W 128 5 ∧ W 128 0 = W 128 5 ∧ fr8 W1 W
theorem cHm {V : vS} (H : JHand V) (e7 : ∀ j, V 7 j = V 75 j) (f y t i : Int) : cHl V f y t i ↔ mHold V (V 6 i) (ldM y) t = f := by
  unfold cHl
  rw [hold_j H e7, ldY_e]
theorem R272_g {V W : vS} {f y t : Int} (R : R272 V f y t W) : fgx V W ∧ (W 124 10 = 0 ∧ (W 124 11 = 0 ∨ W 124 11 = 1)) ∧ ∀ j, V 74 j = W 74 j := by
  obtain ⟨G, RR, F⟩ := R
  have A := RR.1.1
  obtain ⟨F1, -, -, h10, h11, -⟩ := F
  refine ⟨fun c j u v w => (F1 c j (by omega) ?_).trans (A c j u (by omega)), ⟨h10, by rw [h11]; exact bI_r _⟩, fun j => ((F1 74 j (by decide) (by decide)).trans (A 74 j (by decide) (Or.inl (by decide)))).symm⟩
  omega
theorem c_277 {n : Nat} {X : aX} {h : aH} {x1 x2 x3 x4 : Int32} {a1 a2 a3 a4 : Int} (S : wS h) (z1 : x1.toInt = a1) (z2 : x2.toInt = a2) (z3 : x3.toInt = a3) (z4 : x4.toInt = a4) (hp : pM (vw h) a1 a2 a4 ∧ IV h) : Pt n X zM277 0 [some (.ref 72), some (.int x1), some (.int x2), some (.int x3), some (.int x4), none, none, none, none, none, none, none, none] [] h (qI (fun v h' => (wS h' ∧ IV h') ∧ R277 (vw h) a1 a2 a3 a4 v (vw h'))) := by
  obtain ⟨⟨p1, pf, T, p5, ⟨p74, l0, l3⟩, H, e7, hr⟩, I⟩ := hp
  refine pt_q (pt_and (wk_277 S z1 z2 z3 z4 I) (show Pt n X zM277 0 [some (.ref 72), some (.int x1), some (.int x2), some (.int x3), some (.int x4), none, none, none, none, none, none, none, none] [] h (qI (fun v h' => R277 (vw h) a1 a2 a3 a4 v (vw h'))) from ?_)) ?_
  · refine pt_d (d277_0 S z1 z2 z3 z4 ⟨p1, fun h1 R _ _ => ?_⟩)
    obtain ⟨S1, R⟩ := R
    obtain ⟨a, ⟨h10, h11⟩, g74⟩ := R272_g R
    have T1 := TMx_g a T
    have P1 := p275_g a p5
    have pa := fgx_p a
    have e3 : vw h1 3 a1 = vw h 3 a1 := pa 3 a1 (by decide) (Or.inl (by decide))
    have wl : w32 (10 * vw h1 74 a1) = 10 * vw h 3 a1 := by rw [← g74, p74, w32_id (by omega) (by omega)]
    rw [wl]
    -- from the values on
    have go : ∀ (g g2 : aH) (w5 w6 w7 : Int32) (w8 : Int64) (w10 : Int32) (b v t0 : Int), wS g2 → fr8 (vw h1) (vw g) → (∀ j, vw g 124 j = vw h1 124 j) → R275 (vw g) a1 a2 a3 (min (vw h1 124 3) (w32 (10 * vw h1 124 9))) v (vw g2) → w5.toInt = 10 * vw h 3 a1 → w10.toInt = hel (w64 (w64 (b * (min (vw h1 124 3) (w32 (10 * vw h1 124 9)))) + v)) → t0 = (if a4 = -1 then TT (vw h) a1 a2 a3 0 else a4) → b = tv (vw h1) (fun j => vw h1 124 j) t0 1 → Pt n X zM277 98 [some (.ref 72), some (.int x1), some (.int x2), some (.int x3), some (.int x4), some (.int w5), some (.int w6), some (.int w7), some (.long w8), none, some (.int w10), none, none] [] g2 (qI (fun v h' => R277 (vw h) a1 a2 a3 a4 v (vw h'))) := by
      intro g g2 w5 w6 w7 w8 w10 b v t0 S2 Fg gN k g5 g10 et eb
      have F2 : fr8 (vw g) (vw g2) := fun c j u _ => k.2 c j (by omega)
      have F12 := fr8_t Fg F2
      have pag2 := pag_t pa (fr8_p F12)
      have pg := pag_t pa (fr8_p Fg)
      have N2 : ∀ j, vw g2 124 j = vw h1 124 j := fun j => (k.2 124 j (by decide)).trans (gN j)
      refine pt_q (m_98 (N := fun j => vw h1 124 j) (l := vw h 3 a1) S2 z1 z2 z3 g5 g10 (hel_b _).1 ⟨pag2 3 a1 (by decide) (Or.inl (by decide)), l0, l3⟩ (TMx_8 F12 T1) N2 h10 h11) ?_
      rintro v' h' ⟨x, ex, q1, ⟨s2, s3, s4, r2, r3, r4, r5, ⟨i1, i2, i3, i4, i5, i6⟩⟩, iL, fr⟩
      have ev : v = w64 (vlF (vw h) (cHl (vw h) a1 a2 a3) (vw h 1 4).toNat 0 (min (vw h1 124 3) (w32 (10 * vw h1 124 9)))) := by
        have ag := fgx_t a (fgx_8 Fg)
        have hd : ∀ b d k', mHold (vw g) b d k' = mHold (vw h) b d k' := fun b d k' => mHold_f (fun c j u v => ag c j (Or.inl (by omega)) (by omega) (Or.inl (by omega))) (ag 72 14 (by decide) (by decide) (by decide)) b d k'
        rw [k.1, vlF_k (V := vw h) (H := cHl (vw h) a1 a2 a3) (fun j => pg 3 j (by decide) (Or.inl (by decide))) (fun j => pg 6 j (by decide) (Or.inl (by decide))) (fun i => by rw [cHm H e7, hd, pg 6 i (by decide) (Or.inl (by decide))]), pg 1 4 (by decide) (Or.inl (by decide))]
      have E1 : hel (w64 (w64 (b * (min (vw h1 124 3) (w32 (10 * vw h1 124 9)))) + v)) = p1F (vw h) (fun j => vw h1 124 j) a1 a2 a3 a4 := by
        rw [eb, tv_k pa (N' := fun j => vw h1 124 j) (fun _ _ _ => rfl), et, ev]
        rfl
      have E2 : s2 = p2F (vw h) (fun j => vw h1 124 j) a1 a2 a3 a4 := by
        rw [r2, s2_k pag2 (N' := fun j => vw h1 124 j) (fun _ _ _ => rfl), E1]
        rfl
      have E3 : s3 = p3F (vw h) (fun j => vw h1 124 j) a1 a2 a3 a4 := by
        rw [r3, s3_k pag2 (N' := fun j => vw h1 124 j) (fun _ _ _ => rfl), E2]
        rfl
      have E4 : s4 = p4F (vw h) (fun j => vw h1 124 j) a1 a2 a3 a4 := by
        rw [r4, s4_k pag2 (N' := fun j => vw h1 124 j) (fun _ _ _ => rfl), E3]
        rfl
      have E5 : x.toInt = p5F (vw h) (fun j => vw h1 124 j) a1 a2 a3 a4 := by
        rw [r5, E4]
        rfl
      refine ⟨x, ex, vw h1, R, ⟨⟨i1.trans E1, i2.trans E2, i3.trans E3, i4.trans E4, i5.trans E5⟩, ?_⟩, i5.symm, i6.trans i5.symm, fr8_t F12 fr⟩
      rw [iL, sL_k pag2 (N' := fun j => vw h1 124 j) (fun _ _ _ => rfl)]
      rfl
    -- with a text
    have wt : ∀ (t0 : Int), t0 ≠ -1 → pre269 (vw h1) t0 → t0 = (if a4 = -1 then TT (vw h) a1 a2 a3 0 else a4) → ∀ (y18 : Int) (h18 : aH), (wS h18 ∧ R269 (vw h1) t0 y18 (vw h18)) → p275 (vw h18) ∧ ∀ (y22 : Int) (h22 : aH), (wS h22 ∧ R275 (vw h18) a1 a2 a3 (min (vw h1 124 3) (w32 (10 * vw h1 124 9))) y22 (vw h22)) → ∀ (w5 w6 w7 : Int32) (w8 : Int64) (w10 : Int32), w5.toInt = 10 * vw h 3 a1 → w10.toInt = hel (w64 (w64 (y18 * (min (vw h1 124 3) (w32 (10 * vw h1 124 9)))) + y22)) → Pt n X zM277 98 [some (.ref 72), some (.int x1), some (.int x2), some (.int x3), some (.int x4), some (.int w5), some (.int w6), some (.int w7), some (.long w8), none, some (.int w10), none, none] [] h22 (qI (fun v h' => R277 (vw h) a1 a2 a3 a4 v (vw h'))) := by
      intro t0 ne pr et y18 h18 k18
      obtain ⟨S18, k18⟩ := k18
      have F18 := fr8_9 k18
      refine ⟨p275_g (fgx_8 F18) P1, fun y22 h22 k22 w5 w6 w7 w8 w10 g5 g10 => go h18 h22 w5 w6 w7 w8 w10 y18 y22 t0 k22.1 F18 (fun j => k18.2.2 124 j (by decide) (fun e => absurd e (by decide))) k22.2 g5 g10 et ?_⟩
      unfold tv
      rw [if_neg ne]
      exact k18.1
    have no : ∀ (w5 w6 w7 : Int32) (w8 : Int64) (w10 : Int32) (y28 : Int) (h28 : aH), (if a4 = -1 then TT (vw h) a1 a2 a3 0 else a4) = -1 → (wS h28 ∧ R275 (vw h1) a1 a2 a3 (min (vw h1 124 3) (w32 (10 * vw h1 124 9))) y28 (vw h28)) → w5.toInt = 10 * vw h 3 a1 → w10.toInt = hel (w64 (w64 (1 * (min (vw h1 124 3) (w32 (10 * vw h1 124 9)))) + y28)) → Pt n X zM277 98 [some (.ref 72), some (.int x1), some (.int x2), some (.int x3), some (.int x4), some (.int w5), some (.int w6), some (.int w7), some (.long w8), none, some (.int w10), none, none] [] h28 (qI (fun v h' => R277 (vw h) a1 a2 a3 a4 v (vw h'))) := by
      intro w5 w6 w7 w8 w10 y28 h28 et k g5 g10
      refine go h1 h28 w5 w6 w7 w8 w10 1 y28 (-1) k.1 (fun _ _ _ _ => rfl) (fun _ => rfl) k.2 g5 g10 et.symm ?_
      unfold tv
      rw [if_pos rfl]
    have t1 : stg (vw h1) 37 38 39 (10 * vw h 3 a1) a2 a3 (vw h1 33 7).toNat = TT (vw h) a1 a2 a3 0 := by
      rw [← TT_k pa]
      unfold TT
      rw [e3, Int.add_zero]
    refine ⟨fun lt => ⟨TMx_n T1, fun y16 h16 k16 => ?_⟩, fun ge => ⟨fun _ => ⟨T1.2 a4 ge ?_, fun y32 h32 k32 => ?_⟩, fun lt => by omega⟩⟩
    · obtain ⟨S16, rfl, k16⟩ := k16
      have m1 : a4 = -1 := by omega
      rcases TMx_f T1 k16 with z | ⟨z1', z2', z3', z4'⟩
      · refine ⟨fun ge => by omega, fun _ => ⟨P1, fun y28 h28 k28 w5 w6 w7 w8 w10 g5 g6 g7 g8 g10 => no w5 w6 w7 w8 w10 y28 h28 (by rw [if_pos m1, ← t1]; exact z.2) k28 g5 g10⟩⟩
      · have et : y16 = (if a4 = -1 then TT (vw h) a1 a2 a3 0 else a4) := by rw [if_pos m1, ← t1]; exact z2'.symm
        exact ⟨fun _ => ⟨z4', fun y18 h18 k18 => ⟨(wt y16 z3' z4' et y18 h18 k18).1, fun y22 h22 k22 w5 w6 w7 w8 w10 g5 g6 g7 g8 g10 => (wt y16 z3' z4' et y18 h18 k18).2 y22 h22 k22 w5 w6 w7 w8 w10 g5 g10⟩⟩, fun lt2 => by omega⟩
    · rw [a 33 7 (by decide) (by decide) (Or.inl (by decide))]
      omega
    · have lt7 : a4 < vw h1 33 7 := by
        rw [a 33 7 (by decide) (by decide) (Or.inl (by decide))]
        omega
      have et : a4 = (if a4 = -1 then TT (vw h) a1 a2 a3 0 else a4) := (if_neg (by omega)).symm
      exact ⟨(wt a4 (by omega) (T1.2 a4 ge lt7) et y32 h32 k32).1, fun y22 h22 k22 w5 w6 w8 w10 g5 g6 g8 g10 => (wt a4 (by omega) (T1.2 a4 ge lt7) et y32 h32 k32).2 y22 h22 k22 w5 w6 x4 w8 w10 g5 g10⟩
  · rintro v h' ⟨⟨x, rfl, p1, -, p3⟩, ⟨x', ev, p4⟩⟩
    exact ⟨x', ev, ⟨p1, p3⟩, p4⟩


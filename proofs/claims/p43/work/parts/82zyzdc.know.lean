-- ===== what is known of a farm =====
theorem d273_0 {n : Nat} {X : aX} {h : aH} {P : Int → aH → Prop} {x1 x2 x3 : Int32} {a1 a2 a3 : Int} (S : wS h) (z1 : x1.toInt = a1) (z2 : x2.toInt = a2) (z3 : x3.toInt = a3) (H : (0 ≤ w32 ((w32 (10 * a1)) + a2) → w32 ((w32 (10 * a1)) + a2) < 1500 → ((vw h 111 (w32 ((w32 (10 * a1)) + a2)) ≤ 0 → P 0 h) ∧ (0 < vw h 111 (w32 ((w32 (10 * a1)) + a2)) → ((a3 < w32 ((vw h 111 (w32 ((w32 (10 * a1)) + a2))) - 1) → P 0 h) ∧ (w32 ((vw h 111 (w32 ((w32 (10 * a1)) + a2))) - 1) ≤ a3 → P 1 h)))))) : Pt (n + 1) X zM273 0 [some (.ref 72), some (.int x1), some (.int x2), some (.int x3)] [] h (qI P) := by
  refine pt_1 (fun n d => r_aloadn gx273_0 rfl) ?_
  refine pt_d (pt_getR gx273_1 S tr_72_48 ?_)
  refine pt_d (pt_bipush gx273_4 (fun v2 h2 => ?_))
  refine pt_d (pt_1 (fun n d => r_iloadn gx273_6 rfl) ?_)
  refine pt_d (pt_imul gx273_7 h2 z1 (fun v3 h3 => ?_))
  refine pt_d (pt_1 (fun n d => r_iloadn gx273_8 rfl) ?_)
  refine pt_d (pt_iadd gx273_9 h3 z2 (fun v4 h4 => ?_))
  refine pt_d (pt_iald (N' := 1500) gx273_10 S tl_111 h4 (fun v5 p5 q5 h5 => ?_))
  have H := H p5 q5
  refine pt_d (pt_if_le gx273_11 h5 (fun e6 => ?_) (fun e6 => ?_))
  · have H := H.1 e6
    refine pt_d (pt_iconst gx273_35 (fun v7 h7 => ?_))
    exact pt_d (pt_iret gx273_36 ⟨_, rfl, by rw [h7]; exact H⟩)
  · have H := H.2 e6
    refine pt_d (pt_1 (fun n d => r_aloadn gx273_14 rfl) ?_)
    refine pt_d (pt_getR gx273_15 S tr_72_48 ?_)
    refine pt_d (pt_bipush gx273_18 (fun v9 h9 => ?_))
    refine pt_d (pt_1 (fun n d => r_iloadn gx273_20 rfl) ?_)
    refine pt_d (pt_imul gx273_21 h9 z1 (fun v10 h10 => ?_))
    refine pt_d (pt_1 (fun n d => r_iloadn gx273_22 rfl) ?_)
    refine pt_d (pt_iadd gx273_23 h10 z2 (fun v11 h11 => ?_))
    refine pt_d (pt_iald (N' := 1500) gx273_24 S tl_111 h11 (fun v12 p12 q12 h12 => ?_))
    refine pt_d (pt_iconst gx273_25 (fun v13 h13 => ?_))
    refine pt_d (pt_isub gx273_26 h12 h13 (fun v14 h14 => ?_))
    refine pt_d (pt_1 (fun n d => r_iloadn gx273_27 rfl) ?_)
    refine pt_d (pt_icmp_gt gx273_28 h14 z3 (fun e15 => ?_) (fun e15 => ?_))
    · have H := H.1 e15
      refine pt_d (pt_iconst gx273_35 (fun v16 h16 => ?_))
      exact pt_d (pt_iret gx273_36 ⟨_, rfl, by rw [h16]; exact H⟩)
    · have H := H.2 e15
      refine pt_d (pt_iconst gx273_31 (fun v17 h17 => ?_))
      refine pt_d (pt_1 (fun n d => r_goto gx273_32) ?_)
      exact pt_d (pt_iret gx273_36 ⟨_, rfl, by rw [h17]; exact H⟩)
theorem mHo_f {V W : vS} (e : ∀ (c : Nat) j, 72 < c → c < 103 → W c j = V c j) (b d k : Int) : ∀ i : Nat, mHo W b d k i = mHo V b d k i
  | 0 => rfl
  | i + 1 => by
    have s : ∀ V : vS, mHo V b d k (i + 1) = if V 83 (i : Nat) = b ∧ V 86 (i : Nat) ≤ k ∧ V 85 (i : Nat) ≤ d ∧ (mHo V b d k i < 0 ∨ V 85 (mHo V b d k i) ≤ V 85 (i : Nat)) then ((i : Nat) : Int) else mHo V b d k i := fun _ => rfl
    rw [s, s, mHo_f e b d k i, e 83 _ (by decide) (by decide), e 86 _ (by decide) (by decide), e 85 _ (by decide) (by decide), e 85 _ (by decide) (by decide)]
theorem mHold_f {V W : vS} (e : ∀ (c : Nat) j, 72 < c → c < 103 → W c j = V c j) (e14 : W 72 14 = V 72 14) (b d k : Int) : mHold W b d k = mHold V b d k := by
  unfold mHold
  rw [e14, mHo_f e b d k, e 75 _ (by decide) (by decide), e 84 _ (by decide) (by decide)]
theorem cHo_f {V W : vS} (e : ∀ (c : Nat) j, c < 33 → W c j = V c j) (b d k : Int) : ∀ i : Nat, cHo W b d k i = cHo V b d k i
  | 0 => by
    have s : ∀ V : vS, cHo V b d k 0 = (0, V 7 b) := fun _ => rfl
    rw [s, s, e 7 b (by decide)]
  | i + 1 => by
    have s : ∀ V : vS, cHo V b d k (i + 1) = if V 9 (i : Nat) = b ∧ V 12 (i : Nat) ≤ k ∧ (cHo V b d k i).1 ≤ V 11 (i : Nat) ∧ V 11 (i : Nat) ≤ d then (V 11 (i : Nat), V 10 (i : Nat)) else cHo V b d k i := fun _ => rfl
    rw [s, s, cHo_f e b d k i, e 9 _ (by decide), e 12 _ (by decide), e 11 _ (by decide), e 10 _ (by decide)]
theorem cHold_f {V W : vS} (e : ∀ (c : Nat) j, c < 33 → W c j = V c j) (b d k : Int) : cHold W b d k = cHold V b d k := by
  unfold cHold
  rw [e 1 6 (by decide), cHo_f e b d k]
def mPrv (V : vS) (f y t : Int) : Prop := 0 < V 111 (w32 (w32 (10 * f) + y)) ∧ w32 (V 111 (w32 (w32 (10 * f) + y)) - 1) ≤ t
theorem c_273 {n : Nat} {X : aX} {h : aH} {x1 x2 x3 : Int32} {a1 a2 a3 : Int} (S : wS h) (z1 : x1.toInt = a1) (z2 : x2.toInt = a2) (z3 : x3.toInt = a3) : Pt n X zM273 0 [some (.ref 72), some (.int x1), some (.int x2), some (.int x3)] [] h (qI (fun r h' => h' = h ∧ r = bI (mPrv (vw h) a1 a2 a3))) :=
  pt_d (d273_0 S z1 z2 z3 (fun _ _ => ⟨fun e => ⟨rfl, (bI_f (fun z => by have := z.1; omega)).symm⟩, fun e => ⟨fun e2 => ⟨rfl, (bI_f (fun z => by have := z.2; omega)).symm⟩, fun e2 => ⟨rfl, (bI_t ⟨e, e2⟩).symm⟩⟩⟩))

theorem d272_0 {n : Nat} {X : aX} {h : aH} {P : aH → Prop} {x1 x2 x3 : Int32} {a1 a2 a3 : Int} (S : wS h) (z1 : x1.toInt = a1) (z2 : x2.toInt = a2) (z3 : x3.toInt = a3) (H : ((q239 (vw h)) ∧ ∀ (h_1 : aH), (wS h_1 ∧ R239 (vw h) a3 (vw h_1)) → ((0 ≤ vw h_1 72 19 ∧ vw h_1 72 19 ≤ 300) ∧ (∀ (w4 : Int32) (w5 : Int32) (w6 : Int32) (w7 : Int32), w4.toInt = w32 (mSm (vw h_1) a1 a2 (if (0 : Int) = 0 then 104 else 105) ((vw h_1) 72 19).toNat) → w5.toInt = 0 → w6.toInt = (-1) → w7.toInt = 0 → Pt n X zM272 23 [some (.ref 72), some (.int x1), some (.int x2), some (.int x3), some (.int w4), some (.int w5), some (.int w6), some (.int w7), none, none, none, none] [] h_1 (qN P))))) : Pt (n + 1) X zM272 0 [some (.ref 72), some (.int x1), some (.int x2), some (.int x3), none, none, none, none, none, none, none, none] [] h (qN P) := by
  refine pt_1 (fun n d => r_aloadn gx272_0 rfl) ?_
  refine pt_d (pt_1 (fun n d => r_iloadn gx272_1 rfl) ?_)
  obtain ⟨pr1, H⟩ := H
  refine pt_d (pt_virt (as := [.int x3]) (r := []) gx272_2 rfl (show zmt[239]? = some zM239 from rfl) rfl rfl rfl rfl (c_239 S z3 pr1) (kqN (fun h_1 P1 => ?_)))
  have S1 := P1.1
  have H := H h_1 P1
  show Pt _ _ _ 5 _ [] _ _
  refine pt_d (pt_1 (fun n d => r_aloadn gx272_5 rfl) ?_)
  refine pt_d (pt_1 (fun n d => r_iloadn gx272_6 rfl) ?_)
  refine pt_d (pt_1 (fun n d => r_iloadn gx272_7 rfl) ?_)
  refine pt_d (pt_iconst gx272_8 (fun v2 h2 => ?_))
  obtain ⟨pr3, H⟩ := H
  refine pt_d (pt_virt (as := [.int x1, .int x2, .int v2]) (r := []) gx272_9 rfl (show zmt[270]? = some zM270 from rfl) rfl rfl rfl rfl (c_270 S1 z1 z2 h2 pr3) (kqP (fun v3 h3 => ?_)))
  show Pt _ _ _ 12 _ [.int v3] _ _
  refine pt_d (pt_1 (fun n d => r_istore (L' := [some (.ref 72), some (.int x1), some (.int x2), some (.int x3), some (.int v3), none, none, none, none, none, none, none]) gx272_12 rfl rfl) ?_)
  refine pt_d (pt_iconst gx272_14 (fun v4 h4 => ?_))
  refine pt_d (pt_1 (fun n d => r_istore (L' := [some (.ref 72), some (.int x1), some (.int x2), some (.int x3), some (.int v3), some (.int v4), none, none, none, none, none, none]) gx272_15 rfl rfl) ?_)
  refine pt_d (pt_iconst gx272_17 (fun v5 h5 => ?_))
  refine pt_d (pt_1 (fun n d => r_istore (L' := [some (.ref 72), some (.int x1), some (.int x2), some (.int x3), some (.int v3), some (.int v4), some (.int v5), none, none, none, none, none]) gx272_18 rfl rfl) ?_)
  refine pt_d (pt_iconst gx272_20 (fun v6 h6 => ?_))
  refine pt_d (pt_1 (fun n d => r_istore (L' := [some (.ref 72), some (.int x1), some (.int x2), some (.int x3), some (.int v3), some (.int v4), some (.int v5), some (.int v6), none, none, none, none]) gx272_21 rfl rfl) ?_)
  exact H v3 v4 v5 v6 h3 h4 h5 h6
theorem d272_23 {n : Nat} {X : aX} {h : aH} {P : aH → Prop} {x1 x2 x3 x4 x5 x6 x7 : Int32} {a1 a2 a3 a4 a5 a6 a7 : Int} (S : wS h) (z1 : x1.toInt = a1) (z2 : x2.toInt = a2) (z3 : x3.toInt = a3) (z4 : x4.toInt = a4) (z5 : x5.toInt = a5) (z6 : x6.toInt = a6) (z7 : x7.toInt = a7) (H : ((8 ≤ a7 → (∀ (w7 : Int32), w7.toInt = 0 → Pt n X zM272 47 [some (.ref 72), some (.int x1), some (.int x2), some (.int x3), some (.int x4), some (.int x5), some (.int x6), some (.int w7), none, none, none, none] [] h (qN P))) ∧ (a7 < 8 → (0 ≤ a7 → a7 < 8 → ∀ h_6 : aH, wS h_6 → vw h_6 = up (vw h) 126 a7 0 → (∀ (w7 : Int32), w7.toInt = w32 (a7 + 1) → Pt n X zM272 23 [some (.ref 72), some (.int x1), some (.int x2), some (.int x3), some (.int x4), some (.int x5), some (.int x6), some (.int w7), none, none, none, none] [] h_6 (qN P)))))) : Pt (n + 1) X zM272 23 [some (.ref 72), some (.int x1), some (.int x2), some (.int x3), some (.int x4), some (.int x5), some (.int x6), some (.int x7), none, none, none, none] [] h (qN P) := by
  refine pt_1 (fun n d => r_iload gx272_23 rfl) ?_
  refine pt_d (pt_bipush gx272_25 (fun v1 h1 => ?_))
  refine pt_d (pt_icmp_ge gx272_27 z7 h1 (fun e2 => ?_) (fun e2 => ?_))
  · have H := H.1 e2
    refine pt_d (pt_iconst gx272_44 (fun v3 h3 => ?_))
    refine pt_d (pt_1 (fun n d => r_istore (L' := [some (.ref 72), some (.int x1), some (.int x2), some (.int x3), some (.int x4), some (.int x5), some (.int x6), some (.int v3), none, none, none, none]) gx272_45 rfl rfl) ?_)
    exact H v3 h3
  · have H := H.2 e2
    refine pt_d (pt_1 (fun n d => r_aloadn gx272_30 rfl) ?_)
    refine pt_d (pt_getR gx272_31 S tr_72_72 ?_)
    refine pt_d (pt_1 (fun n d => r_iload gx272_34 rfl) ?_)
    refine pt_d (pt_iconst gx272_36 (fun v5 h5 => ?_))
    refine pt_d (pt_iast (N' := 8) gx272_37 S tl_126 z7 h5 (fun h_6 S6 p6 q6 e6 => ?_))
    have H := H p6 q6
    refine pt_d (pt_iinc (c := 1) gx272_38 rfl z7 (fun v7 h7 => ?_))
    show Pt _ _ _ _ [some (.ref 72), some (.int x1), some (.int x2), some (.int x3), some (.int x4), some (.int x5), some (.int x6), some (.int v7), none, none, none, none] [] _ _
    refine pt_d (pt_1 (fun n d => r_goto gx272_41) ?_)
    have H := H h_6 S6 (by rw [e6])
    exact H v7 h7
theorem d272_47 {n : Nat} {X : aX} {h : aH} {P : aH → Prop} {x1 x2 x3 x4 x5 x6 x7 : Int32} {a1 a2 a3 a4 a5 a6 a7 : Int} (S : wS h) (z1 : x1.toInt = a1) (z2 : x2.toInt = a2) (z3 : x3.toInt = a3) (z4 : x4.toInt = a4) (z5 : x5.toInt = a5) (z6 : x6.toInt = a6) (z7 : x7.toInt = a7) (H : ((vw h 72 19 ≤ a7 → (∀ (w7 : Int32) (w8 : Int32) (w9 : Int32), w7.toInt = 0 → w8.toInt = 0 → w9.toInt = 0 → Pt n X zM272 163 [some (.ref 72), some (.int x1), some (.int x2), some (.int x3), some (.int x4), some (.int x5), some (.int x6), some (.int w7), some (.int w8), some (.int w9), none, none] [] h (qN P))) ∧ (a7 < vw h 72 19 → (0 ≤ a7 → a7 < 300 → ((vw h 103 a7 = 0 → (∀ (w7 : Int32), w7.toInt = w32 (a7 + 1) → Pt n X zM272 47 [some (.ref 72), some (.int x1), some (.int x2), some (.int x3), some (.int x4), some (.int x5), some (.int x6), some (.int w7), none, none, none, none] [] h (qN P))) ∧ (vw h 103 a7 ≠ 0 → ((vw h 87 a7 ≠ a1 → (∀ (w7 : Int32), w7.toInt = w32 (a7 + 1) → Pt n X zM272 47 [some (.ref 72), some (.int x1), some (.int x2), some (.int x3), some (.int x4), some (.int x5), some (.int x6), some (.int w7), none, none, none, none] [] h (qN P))) ∧ (vw h 87 a7 = a1 → ((iDiv ((vw h) 90 a7) 365 = a2 → (0 ≤ vw h 89 a7 → vw h 89 a7 < 8 → (0 ≤ vw h 88 a7 → vw h 88 a7 < 150 → ((vw h 73 (vw h 88 a7) ≠ 5 → ∀ h_23 : aH, wS h_23 → vw h_23 = up (vw h) 126 (vw h 89 a7) (w32 ((vw h 126 (vw h 89 a7)) + (vw h 104 a7))) → (∀ (w5 : Int32) (w7 : Int32), w5.toInt = w32 (a5 + 0) → w7.toInt = w32 (a7 + 1) → Pt n X zM272 47 [some (.ref 72), some (.int x1), some (.int x2), some (.int x3), some (.int x4), some (.int w5), some (.int x7), some (.int w7), none, none, none, none] [] h_23 (qN P))) ∧ (vw h 73 (vw h 88 a7) = 5 → ∀ h_23 : aH, wS h_23 → vw h_23 = up (vw h) 126 (vw h 89 a7) (w32 ((vw h 126 (vw h 89 a7)) + (vw h 104 a7))) → (∀ (w5 : Int32) (w7 : Int32), w5.toInt = w32 (a5 + (vw h 104 a7)) → w7.toInt = w32 (a7 + 1) → Pt n X zM272 47 [some (.ref 72), some (.int x1), some (.int x2), some (.int x3), some (.int x4), some (.int w5), some (.int x7), some (.int w7), none, none, none, none] [] h_23 (qN P))))))) ∧ (iDiv ((vw h) 90 a7) 365 ≠ a2 → (∀ (w7 : Int32), w7.toInt = w32 (a7 + 1) → Pt n X zM272 47 [some (.ref 72), some (.int x1), some (.int x2), some (.int x3), some (.int x4), some (.int x5), some (.int x6), some (.int w7), none, none, none, none] [] h (qN P)))))))))))) : Pt (n + 1) X zM272 47 [some (.ref 72), some (.int x1), some (.int x2), some (.int x3), some (.int x4), some (.int x5), some (.int x6), some (.int x7), none, none, none, none] [] h (qN P) := by
  refine pt_1 (fun n d => r_iload gx272_47 rfl) ?_
  refine pt_d (pt_1 (fun n d => r_aloadn gx272_49 rfl) ?_)
  refine pt_d (pt_getI (B := 19) gx272_50 S (fun v1 h1 => ?_))
  refine pt_d (pt_icmp_ge gx272_53 z7 h1 (fun e2 => ?_) (fun e2 => ?_))
  · have H := H.1 e2
    refine pt_d (pt_iconst gx272_154 (fun v3 h3 => ?_))
    refine pt_d (pt_1 (fun n d => r_istore (L' := [some (.ref 72), some (.int x1), some (.int x2), some (.int x3), some (.int x4), some (.int x5), some (.int x6), some (.int v3), none, none, none, none]) gx272_155 rfl rfl) ?_)
    refine pt_d (pt_iconst gx272_157 (fun v4 h4 => ?_))
    refine pt_d (pt_1 (fun n d => r_istore (L' := [some (.ref 72), some (.int x1), some (.int x2), some (.int x3), some (.int x4), some (.int x5), some (.int x6), some (.int v3), some (.int v4), none, none, none]) gx272_158 rfl rfl) ?_)
    refine pt_d (pt_iconst gx272_160 (fun v5 h5 => ?_))
    refine pt_d (pt_1 (fun n d => r_istore (L' := [some (.ref 72), some (.int x1), some (.int x2), some (.int x3), some (.int x4), some (.int x5), some (.int x6), some (.int v3), some (.int v4), some (.int v5), none, none]) gx272_161 rfl rfl) ?_)
    exact H v3 v4 v5 h3 h4 h5
  · have H := H.2 e2
    refine pt_d (pt_1 (fun n d => r_aloadn gx272_56 rfl) ?_)
    refine pt_d (pt_getR gx272_57 S tr_72_40 ?_)
    refine pt_d (pt_1 (fun n d => r_iload gx272_60 rfl) ?_)
    refine pt_d (pt_zald (N' := 300) gx272_62 S tl_103 z7 (fun v7 p7 q7 h7 => ?_))
    have H := H p7 q7
    refine pt_d (pt_if_eq gx272_63 h7 (fun e8 => ?_) (fun e8 => ?_))
    · have H := H.1 e8
      refine pt_d (pt_iinc (c := 1) gx272_148 rfl z7 (fun v9 h9 => ?_))
      show Pt _ _ _ _ [some (.ref 72), some (.int x1), some (.int x2), some (.int x3), some (.int x4), some (.int x5), some (.int x6), some (.int v9), none, none, none, none] [] _ _
      refine pt_d (pt_1 (fun n d => r_goto gx272_151) ?_)
      exact H v9 h9
    · have H := H.2 e8
      refine pt_d (pt_1 (fun n d => r_aloadn gx272_66 rfl) ?_)
      refine pt_d (pt_getR gx272_67 S tr_72_20 ?_)
      refine pt_d (pt_1 (fun n d => r_iload gx272_70 rfl) ?_)
      refine pt_d (pt_iald (N' := 300) gx272_72 S tl_87 z7 (fun v11 p11 q11 h11 => ?_))
      refine pt_d (pt_1 (fun n d => r_iloadn gx272_73 rfl) ?_)
      refine pt_d (pt_icmp_ne gx272_74 h11 z1 (fun e12 => ?_) (fun e12 => ?_))
      · have H := H.1 e12
        refine pt_d (pt_iinc (c := 1) gx272_148 rfl z7 (fun v13 h13 => ?_))
        show Pt _ _ _ _ [some (.ref 72), some (.int x1), some (.int x2), some (.int x3), some (.int x4), some (.int x5), some (.int x6), some (.int v13), none, none, none, none] [] _ _
        refine pt_d (pt_1 (fun n d => r_goto gx272_151) ?_)
        exact H v13 h13
      · have H := H.2 e12
        refine pt_d (pt_1 (fun n d => r_aloadn gx272_77 rfl) ?_)
        refine pt_d (pt_1 (fun n d => r_iload gx272_78 rfl) ?_)
        refine pt_d (pt_virt (as := [.int x7]) (r := []) gx272_80 rfl (show zmt[229]? = some zM229 from rfl) rfl rfl rfl rfl (c_229 S z7) (kqP (fun v14 h14 => ?_)))
        show Pt _ _ _ 83 _ [.int v14] _ _
        refine pt_d (pt_1 (fun n d => r_iloadn gx272_83 rfl) ?_)
        refine pt_d (pt_icmp_eq gx272_84 h14 z2 (fun e15 => ?_) (fun e15 => ?_))
        · have H := H.1 e15
          refine pt_d (pt_1 (fun n d => r_aloadn gx272_90 rfl) ?_)
          refine pt_d (pt_getR gx272_91 S tr_72_72 ?_)
          refine pt_d (pt_1 (fun n d => r_aloadn gx272_94 rfl) ?_)
          refine pt_d (pt_getR gx272_95 S tr_72_22 ?_)
          refine pt_d (pt_1 (fun n d => r_iload gx272_98 rfl) ?_)
          refine pt_d (pt_iald (N' := 300) gx272_100 S tl_89 z7 (fun v18 p18 q18 h18 => ?_))
          refine pt_d (pt_1 (fun n d => r_dup2 gx272_101 rfl) ?_)
          refine pt_d (pt_iald (N' := 8) gx272_102 S tl_126 h18 (fun v19 p19 q19 h19 => ?_))
          have H := H p19 q19
          refine pt_d (pt_1 (fun n d => r_aloadn gx272_103 rfl) ?_)
          refine pt_d (pt_getR gx272_104 S tr_72_41 ?_)
          refine pt_d (pt_1 (fun n d => r_iload gx272_107 rfl) ?_)
          refine pt_d (pt_iald (N' := 300) gx272_109 S tl_104 z7 (fun v21 p21 q21 h21 => ?_))
          refine pt_d (pt_iadd gx272_110 h19 h21 (fun v22 h22 => ?_))
          refine pt_d (pt_iast (N' := 8) gx272_111 S tl_126 h18 h22 (fun h_23 S23 p23 q23 e23 => ?_))
          refine pt_d (pt_1 (fun n d => r_iload gx272_112 rfl) ?_)
          refine pt_d (pt_1 (fun n d => r_aloadn gx272_114 rfl) ?_)
          refine pt_d (pt_getR gx272_115 S23 tr_72_3 ?_)
          refine pt_d (pt_1 (fun n d => r_aloadn gx272_118 rfl) ?_)
          refine pt_d (pt_getR gx272_119 S23 tr_72_21 ?_)
          refine pt_d (pt_1 (fun n d => r_iload gx272_122 rfl) ?_)
          refine pt_d (pt_iald (N' := 300) gx272_124 S23 tl_88 z7 (fun v26 p26 q26 h26 => ?_))
          have h26 : v26.toInt = vw h 88 a7 := by rw [h26, e23, up_c (by decide)]
          refine pt_d (pt_iald (N' := 150) gx272_125 S23 tl_73 h26 (fun v27 p27 q27 h27 => ?_))
          have H := H p27 q27
          have h27 : v27.toInt = vw h 73 (vw h 88 a7) := by rw [h27, e23, up_c (by decide)]
          refine pt_d (pt_iconst gx272_126 (fun v28 h28 => ?_))
          refine pt_d (pt_icmp_ne gx272_127 h27 h28 (fun e29 => ?_) (fun e29 => ?_))
          · have H := H.1 e29
            refine pt_d (pt_iconst gx272_140 (fun v30 h30 => ?_))
            refine pt_d (pt_iadd gx272_141 z5 h30 (fun v31 h31 => ?_))
            refine pt_d (pt_1 (fun n d => r_istore (L' := [some (.ref 72), some (.int x1), some (.int x2), some (.int x3), some (.int x4), some (.int v31), some (.int x6), some (.int x7), none, none, none, none]) gx272_142 rfl rfl) ?_)
            refine pt_d (pt_1 (fun n d => r_iload gx272_144 rfl) ?_)
            refine pt_d (pt_1 (fun n d => r_istore (L' := [some (.ref 72), some (.int x1), some (.int x2), some (.int x3), some (.int x4), some (.int v31), some (.int x7), some (.int x7), none, none, none, none]) gx272_146 rfl rfl) ?_)
            refine pt_d (pt_iinc (c := 1) gx272_148 rfl z7 (fun v32 h32 => ?_))
            show Pt _ _ _ _ [some (.ref 72), some (.int x1), some (.int x2), some (.int x3), some (.int x4), some (.int v31), some (.int x7), some (.int v32), none, none, none, none] [] _ _
            refine pt_d (pt_1 (fun n d => r_goto gx272_151) ?_)
            have H := H h_23 S23 (by rw [e23])
            exact H v31 v32 h31 h32
          · have H := H.2 e29
            refine pt_d (pt_1 (fun n d => r_aloadn gx272_130 rfl) ?_)
            refine pt_d (pt_getR gx272_131 S23 tr_72_41 ?_)
            refine pt_d (pt_1 (fun n d => r_iload gx272_134 rfl) ?_)
            refine pt_d (pt_iald (N' := 300) gx272_136 S23 tl_104 z7 (fun v34 p34 q34 h34 => ?_))
            have h34 : v34.toInt = vw h 104 a7 := by rw [h34, e23, up_c (by decide)]
            refine pt_d (pt_1 (fun n d => r_goto gx272_137) ?_)
            refine pt_d (pt_iadd gx272_141 z5 h34 (fun v35 h35 => ?_))
            refine pt_d (pt_1 (fun n d => r_istore (L' := [some (.ref 72), some (.int x1), some (.int x2), some (.int x3), some (.int x4), some (.int v35), some (.int x6), some (.int x7), none, none, none, none]) gx272_142 rfl rfl) ?_)
            refine pt_d (pt_1 (fun n d => r_iload gx272_144 rfl) ?_)
            refine pt_d (pt_1 (fun n d => r_istore (L' := [some (.ref 72), some (.int x1), some (.int x2), some (.int x3), some (.int x4), some (.int v35), some (.int x7), some (.int x7), none, none, none, none]) gx272_146 rfl rfl) ?_)
            refine pt_d (pt_iinc (c := 1) gx272_148 rfl z7 (fun v36 h36 => ?_))
            show Pt _ _ _ _ [some (.ref 72), some (.int x1), some (.int x2), some (.int x3), some (.int x4), some (.int v35), some (.int x7), some (.int v36), none, none, none, none] [] _ _
            refine pt_d (pt_1 (fun n d => r_goto gx272_151) ?_)
            have H := H h_23 S23 (by rw [e23])
            exact H v35 v36 h35 h36
        · have H := H.2 e15
          refine pt_d (pt_1 (fun n d => r_goto gx272_87) ?_)
          refine pt_d (pt_iinc (c := 1) gx272_148 rfl z7 (fun v37 h37 => ?_))
          show Pt _ _ _ _ [some (.ref 72), some (.int x1), some (.int x2), some (.int x3), some (.int x4), some (.int x5), some (.int x6), some (.int v37), none, none, none, none] [] _ _
          refine pt_d (pt_1 (fun n d => r_goto gx272_151) ?_)
          exact H v37 h37
theorem d272_163 {n : Nat} {X : aX} {h : aH} {P : aH → Prop} {x1 x2 x3 x4 x5 x6 x7 x8 x9 : Int32} {a1 a2 a3 a4 a5 a6 a7 a8 a9 : Int} (S : wS h) (z1 : x1.toInt = a1) (z2 : x2.toInt = a2) (z3 : x3.toInt = a3) (z4 : x4.toInt = a4) (z5 : x5.toInt = a5) (z6 : x6.toInt = a6) (z7 : x7.toInt = a7) (z8 : x8.toInt = a8) (z9 : x9.toInt = a9) (H : ((8 ≤ a9 → (∀ (w9 : Int32) (w10 : Int32), w9.toInt = 0 → w10.toInt = 0 → Pt n X zM272 216 [some (.ref 72), some (.int x1), some (.int x2), some (.int x3), some (.int x4), some (.int x5), some (.int x6), some (.int x7), some (.int x8), some (.int w9), some (.int w10), none] [] h (qN P))) ∧ (a9 < 8 → (0 ≤ a9 → a9 < 8 → ((vw h 126 a9 ≤ 0 → (∀ (w7 : Int32) (w8 : Int32) (w9 : Int32), w7.toInt = w32 (a7 + 0) → w8.toInt = max a8 (vw h 126 a9) → w9.toInt = w32 (a9 + 1) → Pt n X zM272 163 [some (.ref 72), some (.int x1), some (.int x2), some (.int x3), some (.int x4), some (.int x5), some (.int x6), some (.int w7), some (.int w8), some (.int w9), none, none] [] h (qN P))) ∧ (0 < vw h 126 a9 → (∀ (w7 : Int32) (w8 : Int32) (w9 : Int32), w7.toInt = w32 (a7 + 1) → w8.toInt = max a8 (vw h 126 a9) → w9.toInt = w32 (a9 + 1) → Pt n X zM272 163 [some (.ref 72), some (.int x1), some (.int x2), some (.int x3), some (.int x4), some (.int x5), some (.int x6), some (.int w7), some (.int w8), some (.int w9), none, none] [] h (qN P)))))))) : Pt (n + 1) X zM272 163 [some (.ref 72), some (.int x1), some (.int x2), some (.int x3), some (.int x4), some (.int x5), some (.int x6), some (.int x7), some (.int x8), some (.int x9), none, none] [] h (qN P) := by
  refine pt_1 (fun n d => r_iload gx272_163 rfl) ?_
  refine pt_d (pt_bipush gx272_165 (fun v1 h1 => ?_))
  refine pt_d (pt_icmp_ge gx272_167 z9 h1 (fun e2 => ?_) (fun e2 => ?_))
  · have H := H.1 e2
    refine pt_d (pt_iconst gx272_210 (fun v3 h3 => ?_))
    refine pt_d (pt_1 (fun n d => r_istore (L' := [some (.ref 72), some (.int x1), some (.int x2), some (.int x3), some (.int x4), some (.int x5), some (.int x6), some (.int x7), some (.int x8), some (.int v3), none, none]) gx272_211 rfl rfl) ?_)
    refine pt_d (pt_iconst gx272_213 (fun v4 h4 => ?_))
    refine pt_d (pt_1 (fun n d => r_istore (L' := [some (.ref 72), some (.int x1), some (.int x2), some (.int x3), some (.int x4), some (.int x5), some (.int x6), some (.int x7), some (.int x8), some (.int v3), some (.int v4), none]) gx272_214 rfl rfl) ?_)
    exact H v3 v4 h3 h4
  · have H := H.2 e2
    refine pt_d (pt_1 (fun n d => r_iload gx272_170 rfl) ?_)
    refine pt_d (pt_1 (fun n d => r_aloadn gx272_172 rfl) ?_)
    refine pt_d (pt_getR gx272_173 S tr_72_72 ?_)
    refine pt_d (pt_1 (fun n d => r_iload gx272_176 rfl) ?_)
    refine pt_d (pt_iald (N' := 8) gx272_178 S tl_126 z9 (fun v6 p6 q6 h6 => ?_))
    have H := H p6 q6
    refine pt_d (pt_if_le gx272_179 h6 (fun e7 => ?_) (fun e7 => ?_))
    · have H := H.1 e7
      refine pt_d (pt_iconst gx272_186 (fun v8 h8 => ?_))
      refine pt_d (pt_iadd gx272_187 z7 h8 (fun v9 h9 => ?_))
      refine pt_d (pt_1 (fun n d => r_istore (L' := [some (.ref 72), some (.int x1), some (.int x2), some (.int x3), some (.int x4), some (.int x5), some (.int x6), some (.int v9), some (.int x8), some (.int x9), none, none]) gx272_188 rfl rfl) ?_)
      refine pt_d (pt_1 (fun n d => r_iload gx272_190 rfl) ?_)
      refine pt_d (pt_1 (fun n d => r_aloadn gx272_192 rfl) ?_)
      refine pt_d (pt_getR gx272_193 S tr_72_72 ?_)
      refine pt_d (pt_1 (fun n d => r_iload gx272_196 rfl) ?_)
      refine pt_d (pt_iald (N' := 8) gx272_198 S tl_126 z9 (fun v11 p11 q11 h11 => ?_))
      refine pt_d (pt_stat (as := [.int x8, .int v11]) (r := []) gx272_199 rfl (show zmt[212]? = some zM212 from rfl) rfl rfl rfl rfl (c_212 S z8 h11) (kqP (fun v12 h12 => ?_)))
      show Pt _ _ _ 202 _ [.int v12] _ _
      refine pt_d (pt_1 (fun n d => r_istore (L' := [some (.ref 72), some (.int x1), some (.int x2), some (.int x3), some (.int x4), some (.int x5), some (.int x6), some (.int v9), some (.int v12), some (.int x9), none, none]) gx272_202 rfl rfl) ?_)
      refine pt_d (pt_iinc (c := 1) gx272_204 rfl z9 (fun v13 h13 => ?_))
      show Pt _ _ _ _ [some (.ref 72), some (.int x1), some (.int x2), some (.int x3), some (.int x4), some (.int x5), some (.int x6), some (.int v9), some (.int v12), some (.int v13), none, none] [] _ _
      refine pt_d (pt_1 (fun n d => r_goto gx272_207) ?_)
      exact H v9 v12 v13 h9 h12 h13
    · have H := H.2 e7
      refine pt_d (pt_iconst gx272_182 (fun v14 h14 => ?_))
      refine pt_d (pt_1 (fun n d => r_goto gx272_183) ?_)
      refine pt_d (pt_iadd gx272_187 z7 h14 (fun v15 h15 => ?_))
      refine pt_d (pt_1 (fun n d => r_istore (L' := [some (.ref 72), some (.int x1), some (.int x2), some (.int x3), some (.int x4), some (.int x5), some (.int x6), some (.int v15), some (.int x8), some (.int x9), none, none]) gx272_188 rfl rfl) ?_)
      refine pt_d (pt_1 (fun n d => r_iload gx272_190 rfl) ?_)
      refine pt_d (pt_1 (fun n d => r_aloadn gx272_192 rfl) ?_)
      refine pt_d (pt_getR gx272_193 S tr_72_72 ?_)
      refine pt_d (pt_1 (fun n d => r_iload gx272_196 rfl) ?_)
      refine pt_d (pt_iald (N' := 8) gx272_198 S tl_126 z9 (fun v17 p17 q17 h17 => ?_))
      refine pt_d (pt_stat (as := [.int x8, .int v17]) (r := []) gx272_199 rfl (show zmt[212]? = some zM212 from rfl) rfl rfl rfl rfl (c_212 S z8 h17) (kqP (fun v18 h18 => ?_)))
      show Pt _ _ _ 202 _ [.int v18] _ _
      refine pt_d (pt_1 (fun n d => r_istore (L' := [some (.ref 72), some (.int x1), some (.int x2), some (.int x3), some (.int x4), some (.int x5), some (.int x6), some (.int v15), some (.int v18), some (.int x9), none, none]) gx272_202 rfl rfl) ?_)
      refine pt_d (pt_iinc (c := 1) gx272_204 rfl z9 (fun v19 h19 => ?_))
      show Pt _ _ _ _ [some (.ref 72), some (.int x1), some (.int x2), some (.int x3), some (.int x4), some (.int x5), some (.int x6), some (.int v15), some (.int v18), some (.int v19), none, none] [] _ _
      refine pt_d (pt_1 (fun n d => r_goto gx272_207) ?_)
      exact H v15 v18 v19 h15 h18 h19
theorem d272_216 {n : Nat} {X : aX} {h : aH} {P : aH → Prop} {x1 x2 x3 x4 x5 x6 x7 x8 x9 x10 : Int32} {a1 a2 a3 a4 a5 a6 a7 a8 a9 a10 : Int} (S : wS h) (z1 : x1.toInt = a1) (z2 : x2.toInt = a2) (z3 : x3.toInt = a3) (z4 : x4.toInt = a4) (z5 : x5.toInt = a5) (z6 : x6.toInt = a6) (z7 : x7.toInt = a7) (z8 : x8.toInt = a8) (z9 : x9.toInt = a9) (z10 : x10.toInt = a10) (H : ((a2 ≤ a10 → (∀ (w10 : Int32) (w11 : Int32), w10.toInt = 0 → w11.toInt = 0 → Pt n X zM272 263 [some (.ref 72), some (.int x1), some (.int x2), some (.int x3), some (.int x4), some (.int x5), some (.int x6), some (.int x7), some (.int x8), some (.int x9), some (.int w10), some (.int w11)] [] h (qN P))) ∧ (a10 < a2 → ((0 ≤ vw h 72 19 ∧ vw h 72 19 ≤ 300) ∧ ((0 ≤ vw h 72 19 ∧ vw h 72 19 ≤ 300) ∧ ((w32 (mSm (vw h) a1 a10 (if (0 : Int) = 0 then 104 else 105) ((vw h) 72 19).toNat) ≤ w32 (mSm (vw h) a1 a10 (if (1 : Int) = 0 then 104 else 105) ((vw h) 72 19).toNat) → (∀ (w9 : Int32) (w10 : Int32), w9.toInt = w32 (a9 + 0) → w10.toInt = w32 (a10 + 1) → Pt n X zM272 216 [some (.ref 72), some (.int x1), some (.int x2), some (.int x3), some (.int x4), some (.int x5), some (.int x6), some (.int x7), some (.int x8), some (.int w9), some (.int w10), none] [] h (qN P))) ∧ (w32 (mSm (vw h) a1 a10 (if (1 : Int) = 0 then 104 else 105) ((vw h) 72 19).toNat) < w32 (mSm (vw h) a1 a10 (if (0 : Int) = 0 then 104 else 105) ((vw h) 72 19).toNat) → (∀ (w9 : Int32) (w10 : Int32), w9.toInt = w32 (a9 + 1) → w10.toInt = w32 (a10 + 1) → Pt n X zM272 216 [some (.ref 72), some (.int x1), some (.int x2), some (.int x3), some (.int x4), some (.int x5), some (.int x6), some (.int x7), some (.int x8), some (.int w9), some (.int w10), none] [] h (qN P))))))))) : Pt (n + 1) X zM272 216 [some (.ref 72), some (.int x1), some (.int x2), some (.int x3), some (.int x4), some (.int x5), some (.int x6), some (.int x7), some (.int x8), some (.int x9), some (.int x10), none] [] h (qN P) := by
  refine pt_1 (fun n d => r_iload gx272_216 rfl) ?_
  refine pt_d (pt_1 (fun n d => r_iloadn gx272_218 rfl) ?_)
  refine pt_d (pt_icmp_ge gx272_219 z10 z2 (fun e1 => ?_) (fun e1 => ?_))
  · have H := H.1 e1
    refine pt_d (pt_iconst gx272_257 (fun v2 h2 => ?_))
    refine pt_d (pt_1 (fun n d => r_istore (L' := [some (.ref 72), some (.int x1), some (.int x2), some (.int x3), some (.int x4), some (.int x5), some (.int x6), some (.int x7), some (.int x8), some (.int x9), some (.int v2), none]) gx272_258 rfl rfl) ?_)
    refine pt_d (pt_iconst gx272_260 (fun v3 h3 => ?_))
    refine pt_d (pt_1 (fun n d => r_istore (L' := [some (.ref 72), some (.int x1), some (.int x2), some (.int x3), some (.int x4), some (.int x5), some (.int x6), some (.int x7), some (.int x8), some (.int x9), some (.int v2), some (.int v3)]) gx272_261 rfl rfl) ?_)
    exact H v2 v3 h2 h3
  · have H := H.2 e1
    refine pt_d (pt_1 (fun n d => r_iload gx272_222 rfl) ?_)
    refine pt_d (pt_1 (fun n d => r_aloadn gx272_224 rfl) ?_)
    refine pt_d (pt_1 (fun n d => r_iloadn gx272_225 rfl) ?_)
    refine pt_d (pt_1 (fun n d => r_iload gx272_226 rfl) ?_)
    refine pt_d (pt_iconst gx272_228 (fun v4 h4 => ?_))
    obtain ⟨pr5, H⟩ := H
    refine pt_d (pt_virt (as := [.int x1, .int x10, .int v4]) (r := [.int x9]) gx272_229 rfl (show zmt[270]? = some zM270 from rfl) rfl rfl rfl rfl (c_270 S z1 z10 h4 pr5) (kqP (fun v5 h5 => ?_)))
    show Pt _ _ _ 232 _ [.int v5, .int x9] _ _
    refine pt_d (pt_1 (fun n d => r_aloadn gx272_232 rfl) ?_)
    refine pt_d (pt_1 (fun n d => r_iloadn gx272_233 rfl) ?_)
    refine pt_d (pt_1 (fun n d => r_iload gx272_234 rfl) ?_)
    refine pt_d (pt_iconst gx272_236 (fun v6 h6 => ?_))
    obtain ⟨pr7, H⟩ := H
    refine pt_d (pt_virt (as := [.int x1, .int x10, .int v6]) (r := [.int v5, .int x9]) gx272_237 rfl (show zmt[270]? = some zM270 from rfl) rfl rfl rfl rfl (c_270 S z1 z10 h6 pr7) (kqP (fun v7 h7 => ?_)))
    show Pt _ _ _ 240 _ [.int v7, .int v5, .int x9] _ _
    refine pt_d (pt_icmp_le gx272_240 h5 h7 (fun e8 => ?_) (fun e8 => ?_))
    · have H := H.1 e8
      refine pt_d (pt_iconst gx272_247 (fun v9 h9 => ?_))
      refine pt_d (pt_iadd gx272_248 z9 h9 (fun v10 h10 => ?_))
      refine pt_d (pt_1 (fun n d => r_istore (L' := [some (.ref 72), some (.int x1), some (.int x2), some (.int x3), some (.int x4), some (.int x5), some (.int x6), some (.int x7), some (.int x8), some (.int v10), some (.int x10), none]) gx272_249 rfl rfl) ?_)
      refine pt_d (pt_iinc (c := 1) gx272_251 rfl z10 (fun v11 h11 => ?_))
      show Pt _ _ _ _ [some (.ref 72), some (.int x1), some (.int x2), some (.int x3), some (.int x4), some (.int x5), some (.int x6), some (.int x7), some (.int x8), some (.int v10), some (.int v11), none] [] _ _
      refine pt_d (pt_1 (fun n d => r_goto gx272_254) ?_)
      exact H v10 v11 h10 h11
    · have H := H.2 e8
      refine pt_d (pt_iconst gx272_243 (fun v12 h12 => ?_))
      refine pt_d (pt_1 (fun n d => r_goto gx272_244) ?_)
      refine pt_d (pt_iadd gx272_248 z9 h12 (fun v13 h13 => ?_))
      refine pt_d (pt_1 (fun n d => r_istore (L' := [some (.ref 72), some (.int x1), some (.int x2), some (.int x3), some (.int x4), some (.int x5), some (.int x6), some (.int x7), some (.int x8), some (.int v13), some (.int x10), none]) gx272_249 rfl rfl) ?_)
      refine pt_d (pt_iinc (c := 1) gx272_251 rfl z10 (fun v14 h14 => ?_))
      show Pt _ _ _ _ [some (.ref 72), some (.int x1), some (.int x2), some (.int x3), some (.int x4), some (.int x5), some (.int x6), some (.int x7), some (.int x8), some (.int v13), some (.int v14), none] [] _ _
      refine pt_d (pt_1 (fun n d => r_goto gx272_254) ?_)
      exact H v13 v14 h13 h14
theorem d272_263 {n : Nat} {X : aX} {h : aH} {P : aH → Prop} {x1 x2 x3 x4 x5 x6 x7 x8 x9 x10 x11 : Int32} {a1 a2 a3 a4 a5 a6 a7 a8 a9 a10 a11 : Int} (S : wS h) (z1 : x1.toInt = a1) (z2 : x2.toInt = a2) (z3 : x3.toInt = a3) (z4 : x4.toInt = a4) (z5 : x5.toInt = a5) (z6 : x6.toInt = a6) (z7 : x7.toInt = a7) (z8 : x8.toInt = a8) (z9 : x9.toInt = a9) (z10 : x10.toInt = a10) (z11 : x11.toInt = a11) (H : ((vw h 72 2 ≤ a11 → (0 ≤ a1 → a1 < 150 → ∀ h_13 : aH, wS h_13 → vw h_13 = up (up (up (vw h) 124 0 a2) 124 1 (vw h 73 a1)) 124 2 a4 → ((0 ≤ vw h_13 72 19 ∧ vw h_13 72 19 ≤ 300) ∧ ((a4 ≠ 0 → ((a4 ≠ 0 → ((0 ≤ a6 → ∀ h_35 : aH, wS h_35 → vw h_35 = up (up (up (up (vw h_13) 124 3 (w32 (mSm (vw h_13) a1 a2 (if (1 : Int) = 0 then 104 else 105) ((vw h_13) 72 19).toNat))) 124 4 (iDiv (w32 (100 * a5)) a4)) 124 5 a7) 124 6 (iDiv (w32 (100 * a8)) a4) → ∀ h_40 : aH, wS h_40 → vw h_40 = up (vw h_35) 124 7 (lt0 (vw h_35) a6) → ((0 ≤ vw h_40 72 19 ∧ vw h_40 72 19 ≤ 300) ∧ ∀ h_51 : aH, wS h_51 → vw h_51 = up (up (up (vw h_40) 124 8 (mErr (vw h_40) a1 a2)) 124 9 a10) 124 10 0 → ((¬ (mPrv (vw h_51) a1 a2 a3) → ∀ h_60 : aH, wS h_60 → vw h_60 = up (up (vw h_51) 124 11 0) 124 12 a9 → P h_60) ∧ ((mPrv (vw h_51) a1 a2 a3) → ∀ h_65 : aH, wS h_65 → vw h_65 = up (up (vw h_51) 124 11 1) 124 12 a9 → P h_65)))) ∧ (a6 < 0 → ∀ h_67 : aH, wS h_67 → vw h_67 = up (up (up (up (up (vw h_13) 124 3 (w32 (mSm (vw h_13) a1 a2 (if (1 : Int) = 0 then 104 else 105) ((vw h_13) 72 19).toNat))) 124 4 (iDiv (w32 (100 * a5)) a4)) 124 5 a7) 124 6 (iDiv (w32 (100 * a8)) a4)) 124 7 0 → ((0 ≤ vw h_67 72 19 ∧ vw h_67 72 19 ≤ 300) ∧ ∀ h_78 : aH, wS h_78 → vw h_78 = up (up (up (vw h_67) 124 8 (mErr (vw h_67) a1 a2)) 124 9 a10) 124 10 0 → ((¬ (mPrv (vw h_78) a1 a2 a3) → ∀ h_87 : aH, wS h_87 → vw h_87 = up (up (vw h_78) 124 11 0) 124 12 a9 → P h_87) ∧ ((mPrv (vw h_78) a1 a2 a3) → ∀ h_92 : aH, wS h_92 → vw h_92 = up (up (vw h_78) 124 11 1) 124 12 a9 → P h_92)))))) ∧ (a4 = 0 → ((0 ≤ a6 → ∀ h_94 : aH, wS h_94 → vw h_94 = up (up (up (up (vw h_13) 124 3 (w32 (mSm (vw h_13) a1 a2 (if (1 : Int) = 0 then 104 else 105) ((vw h_13) 72 19).toNat))) 124 4 (iDiv (w32 (100 * a5)) a4)) 124 5 a7) 124 6 0 → ∀ h_99 : aH, wS h_99 → vw h_99 = up (vw h_94) 124 7 (lt0 (vw h_94) a6) → ((0 ≤ vw h_99 72 19 ∧ vw h_99 72 19 ≤ 300) ∧ ∀ h_110 : aH, wS h_110 → vw h_110 = up (up (up (vw h_99) 124 8 (mErr (vw h_99) a1 a2)) 124 9 a10) 124 10 0 → ((¬ (mPrv (vw h_110) a1 a2 a3) → ∀ h_119 : aH, wS h_119 → vw h_119 = up (up (vw h_110) 124 11 0) 124 12 a9 → P h_119) ∧ ((mPrv (vw h_110) a1 a2 a3) → ∀ h_124 : aH, wS h_124 → vw h_124 = up (up (vw h_110) 124 11 1) 124 12 a9 → P h_124)))) ∧ (a6 < 0 → ∀ h_126 : aH, wS h_126 → vw h_126 = up (up (up (up (up (vw h_13) 124 3 (w32 (mSm (vw h_13) a1 a2 (if (1 : Int) = 0 then 104 else 105) ((vw h_13) 72 19).toNat))) 124 4 (iDiv (w32 (100 * a5)) a4)) 124 5 a7) 124 6 0) 124 7 0 → ((0 ≤ vw h_126 72 19 ∧ vw h_126 72 19 ≤ 300) ∧ ∀ h_137 : aH, wS h_137 → vw h_137 = up (up (up (vw h_126) 124 8 (mErr (vw h_126) a1 a2)) 124 9 a10) 124 10 0 → ((¬ (mPrv (vw h_137) a1 a2 a3) → ∀ h_146 : aH, wS h_146 → vw h_146 = up (up (vw h_137) 124 11 0) 124 12 a9 → P h_146) ∧ ((mPrv (vw h_137) a1 a2 a3) → ∀ h_151 : aH, wS h_151 → vw h_151 = up (up (vw h_137) 124 11 1) 124 12 a9 → P h_151)))))))) ∧ (a4 = 0 → ((a4 ≠ 0 → ((0 ≤ a6 → ∀ h_163 : aH, wS h_163 → vw h_163 = up (up (up (up (vw h_13) 124 3 (w32 (mSm (vw h_13) a1 a2 (if (1 : Int) = 0 then 104 else 105) ((vw h_13) 72 19).toNat))) 124 4 0) 124 5 a7) 124 6 (iDiv (w32 (100 * a8)) a4) → ∀ h_168 : aH, wS h_168 → vw h_168 = up (vw h_163) 124 7 (lt0 (vw h_163) a6) → ((0 ≤ vw h_168 72 19 ∧ vw h_168 72 19 ≤ 300) ∧ ∀ h_179 : aH, wS h_179 → vw h_179 = up (up (up (vw h_168) 124 8 (mErr (vw h_168) a1 a2)) 124 9 a10) 124 10 0 → ((¬ (mPrv (vw h_179) a1 a2 a3) → ∀ h_188 : aH, wS h_188 → vw h_188 = up (up (vw h_179) 124 11 0) 124 12 a9 → P h_188) ∧ ((mPrv (vw h_179) a1 a2 a3) → ∀ h_193 : aH, wS h_193 → vw h_193 = up (up (vw h_179) 124 11 1) 124 12 a9 → P h_193)))) ∧ (a6 < 0 → ∀ h_195 : aH, wS h_195 → vw h_195 = up (up (up (up (up (vw h_13) 124 3 (w32 (mSm (vw h_13) a1 a2 (if (1 : Int) = 0 then 104 else 105) ((vw h_13) 72 19).toNat))) 124 4 0) 124 5 a7) 124 6 (iDiv (w32 (100 * a8)) a4)) 124 7 0 → ((0 ≤ vw h_195 72 19 ∧ vw h_195 72 19 ≤ 300) ∧ ∀ h_206 : aH, wS h_206 → vw h_206 = up (up (up (vw h_195) 124 8 (mErr (vw h_195) a1 a2)) 124 9 a10) 124 10 0 → ((¬ (mPrv (vw h_206) a1 a2 a3) → ∀ h_215 : aH, wS h_215 → vw h_215 = up (up (vw h_206) 124 11 0) 124 12 a9 → P h_215) ∧ ((mPrv (vw h_206) a1 a2 a3) → ∀ h_220 : aH, wS h_220 → vw h_220 = up (up (vw h_206) 124 11 1) 124 12 a9 → P h_220)))))) ∧ (a4 = 0 → ((0 ≤ a6 → ∀ h_222 : aH, wS h_222 → vw h_222 = up (up (up (up (vw h_13) 124 3 (w32 (mSm (vw h_13) a1 a2 (if (1 : Int) = 0 then 104 else 105) ((vw h_13) 72 19).toNat))) 124 4 0) 124 5 a7) 124 6 0 → ∀ h_227 : aH, wS h_227 → vw h_227 = up (vw h_222) 124 7 (lt0 (vw h_222) a6) → ((0 ≤ vw h_227 72 19 ∧ vw h_227 72 19 ≤ 300) ∧ ∀ h_238 : aH, wS h_238 → vw h_238 = up (up (up (vw h_227) 124 8 (mErr (vw h_227) a1 a2)) 124 9 a10) 124 10 0 → ((¬ (mPrv (vw h_238) a1 a2 a3) → ∀ h_247 : aH, wS h_247 → vw h_247 = up (up (vw h_238) 124 11 0) 124 12 a9 → P h_247) ∧ ((mPrv (vw h_238) a1 a2 a3) → ∀ h_252 : aH, wS h_252 → vw h_252 = up (up (vw h_238) 124 11 1) 124 12 a9 → P h_252)))) ∧ (a6 < 0 → ∀ h_254 : aH, wS h_254 → vw h_254 = up (up (up (up (up (vw h_13) 124 3 (w32 (mSm (vw h_13) a1 a2 (if (1 : Int) = 0 then 104 else 105) ((vw h_13) 72 19).toNat))) 124 4 0) 124 5 a7) 124 6 0) 124 7 0 → ((0 ≤ vw h_254 72 19 ∧ vw h_254 72 19 ≤ 300) ∧ ∀ h_265 : aH, wS h_265 → vw h_265 = up (up (up (vw h_254) 124 8 (mErr (vw h_254) a1 a2)) 124 9 a10) 124 10 0 → ((¬ (mPrv (vw h_265) a1 a2 a3) → ∀ h_274 : aH, wS h_274 → vw h_274 = up (up (vw h_265) 124 11 0) 124 12 a9 → P h_274) ∧ ((mPrv (vw h_265) a1 a2 a3) → ∀ h_279 : aH, wS h_279 → vw h_279 = up (up (vw h_265) 124 11 1) 124 12 a9 → P h_279)))))))))))) ∧ (a11 < vw h 72 2 → (0 ≤ a11 → a11 < 150 → ((vw h 73 a11 ≠ 6 → (∀ (w10 : Int32) (w11 : Int32), w10.toInt = w32 (a10 + 0) → w11.toInt = w32 (a11 + 1) → Pt n X zM272 263 [some (.ref 72), some (.int x1), some (.int x2), some (.int x3), some (.int x4), some (.int x5), some (.int x6), some (.int x7), some (.int x8), some (.int x9), some (.int w10), some (.int w11)] [] h (qN P))) ∧ (vw h 73 a11 = 6 → (vw h 72 14 ≤ 200 ∧ ((mHold (vw h) a11 (w32 ((w32 ((w32 (365 * a2)) + 365)) - 1)) a3 ≠ a1 → (∀ (w10 : Int32) (w11 : Int32), w10.toInt = w32 (a10 + 0) → w11.toInt = w32 (a11 + 1) → Pt n X zM272 263 [some (.ref 72), some (.int x1), some (.int x2), some (.int x3), some (.int x4), some (.int x5), some (.int x6), some (.int x7), some (.int x8), some (.int x9), some (.int w10), some (.int w11)] [] h (qN P))) ∧ (mHold (vw h) a11 (w32 ((w32 ((w32 (365 * a2)) + 365)) - 1)) a3 = a1 → (∀ (w10 : Int32) (w11 : Int32), w10.toInt = w32 (a10 + 1) → w11.toInt = w32 (a11 + 1) → Pt n X zM272 263 [some (.ref 72), some (.int x1), some (.int x2), some (.int x3), some (.int x4), some (.int x5), some (.int x6), some (.int x7), some (.int x8), some (.int x9), some (.int w10), some (.int w11)] [] h (qN P))))))))))) : Pt (n + 1) X zM272 263 [some (.ref 72), some (.int x1), some (.int x2), some (.int x3), some (.int x4), some (.int x5), some (.int x6), some (.int x7), some (.int x8), some (.int x9), some (.int x10), some (.int x11)] [] h (qN P) := by
  refine pt_1 (fun n d => r_iload gx272_263 rfl) ?_
  refine pt_d (pt_1 (fun n d => r_aloadn gx272_265 rfl) ?_)
  refine pt_d (pt_getI (B := 2) gx272_266 S (fun v1 h1 => ?_))
  refine pt_d (pt_icmp_ge gx272_269 z11 h1 (fun e2 => ?_) (fun e2 => ?_))
  · have H := H.1 e2
    refine pt_d (pt_1 (fun n d => r_aloadn gx272_322 rfl) ?_)
    refine pt_d (pt_getR gx272_323 S tr_72_69 ?_)
    refine pt_d (pt_iconst gx272_326 (fun v4 h4 => ?_))
    refine pt_d (pt_1 (fun n d => r_iloadn gx272_327 rfl) ?_)
    refine pt_d (pt_iast (N' := 13) gx272_328 S tl_124 h4 z2 (fun h_5 S5 p5 q5 e5 => ?_))
    refine pt_d (pt_1 (fun n d => r_aloadn gx272_329 rfl) ?_)
    refine pt_d (pt_getR gx272_330 S5 tr_72_69 ?_)
    refine pt_d (pt_iconst gx272_333 (fun v7 h7 => ?_))
    refine pt_d (pt_1 (fun n d => r_aloadn gx272_334 rfl) ?_)
    refine pt_d (pt_getR gx272_335 S5 tr_72_3 ?_)
    refine pt_d (pt_1 (fun n d => r_iloadn gx272_338 rfl) ?_)
    refine pt_d (pt_iald (N' := 150) gx272_339 S5 tl_73 z1 (fun v9 p9 q9 h9 => ?_))
    have H := H p9 q9
    have h9 : v9.toInt = vw h 73 a1 := by rw [h9, e5, up_c (by decide)]
    refine pt_d (pt_iast (N' := 13) gx272_340 S5 tl_124 h7 h9 (fun h_10 S10 p10 q10 e10 => ?_))
    refine pt_d (pt_1 (fun n d => r_aloadn gx272_341 rfl) ?_)
    refine pt_d (pt_getR gx272_342 S10 tr_72_69 ?_)
    refine pt_d (pt_iconst gx272_345 (fun v12 h12 => ?_))
    refine pt_d (pt_1 (fun n d => r_iload gx272_346 rfl) ?_)
    refine pt_d (pt_iast (N' := 13) gx272_348 S10 tl_124 h12 z4 (fun h_13 S13 p13 q13 e13 => ?_))
    refine pt_d (pt_1 (fun n d => r_aloadn gx272_349 rfl) ?_)
    refine pt_d (pt_getR gx272_350 S13 tr_72_69 ?_)
    refine pt_d (pt_iconst gx272_353 (fun v15 h15 => ?_))
    refine pt_d (pt_1 (fun n d => r_aloadn gx272_354 rfl) ?_)
    refine pt_d (pt_1 (fun n d => r_iloadn gx272_355 rfl) ?_)
    refine pt_d (pt_1 (fun n d => r_iloadn gx272_356 rfl) ?_)
    refine pt_d (pt_iconst gx272_357 (fun v16 h16 => ?_))
    have H := H h_13 S13 (by rw [e13, e10, e5])
    obtain ⟨pr17, H⟩ := H
    refine pt_d (pt_virt (as := [.int x1, .int x2, .int v16]) (r := [.int v15, .ref 124]) gx272_358 rfl (show zmt[270]? = some zM270 from rfl) rfl rfl rfl rfl (c_270 S13 z1 z2 h16 pr17) (kqP (fun v17 h17 => ?_)))
    show Pt _ _ _ 361 _ [.int v17, .int v15, .ref 124] _ _
    refine pt_d (pt_iast (N' := 13) gx272_361 S13 tl_124 h15 h17 (fun h_18 S18 p18 q18 e18 => ?_))
    refine pt_d (pt_1 (fun n d => r_aloadn gx272_362 rfl) ?_)
    refine pt_d (pt_getR gx272_363 S18 tr_72_69 ?_)
    refine pt_d (pt_iconst gx272_366 (fun v20 h20 => ?_))
    refine pt_d (pt_1 (fun n d => r_iload gx272_367 rfl) ?_)
    refine pt_d (pt_if_ne gx272_369 z4 (fun e21 => ?_) (fun e21 => ?_))
    · have H := H.1 e21
      refine pt_d (pt_bipush gx272_376 (fun v22 h22 => ?_))
      refine pt_d (pt_1 (fun n d => r_iload gx272_378 rfl) ?_)
      refine pt_d (pt_imul gx272_380 h22 z5 (fun v23 h23 => ?_))
      refine pt_d (pt_1 (fun n d => r_iload gx272_381 rfl) ?_)
      refine pt_d (pt_idiv gx272_383 h23 z4 (fun v24 h24 => ?_))
      refine pt_d (pt_iast (N' := 13) gx272_384 S18 tl_124 h20 h24 (fun h_25 S25 p25 q25 e25 => ?_))
      refine pt_d (pt_1 (fun n d => r_aloadn gx272_385 rfl) ?_)
      refine pt_d (pt_getR gx272_386 S25 tr_72_69 ?_)
      refine pt_d (pt_iconst gx272_389 (fun v27 h27 => ?_))
      refine pt_d (pt_1 (fun n d => r_iload gx272_390 rfl) ?_)
      refine pt_d (pt_iast (N' := 13) gx272_392 S25 tl_124 h27 z7 (fun h_28 S28 p28 q28 e28 => ?_))
      refine pt_d (pt_1 (fun n d => r_aloadn gx272_393 rfl) ?_)
      refine pt_d (pt_getR gx272_394 S28 tr_72_69 ?_)
      refine pt_d (pt_bipush gx272_397 (fun v30 h30 => ?_))
      refine pt_d (pt_1 (fun n d => r_iload gx272_399 rfl) ?_)
      refine pt_d (pt_if_ne gx272_401 z4 (fun e31 => ?_) (fun e31 => ?_))
      · have H := H.1 e31
        refine pt_d (pt_bipush gx272_408 (fun v32 h32 => ?_))
        refine pt_d (pt_1 (fun n d => r_iload gx272_410 rfl) ?_)
        refine pt_d (pt_imul gx272_412 h32 z8 (fun v33 h33 => ?_))
        refine pt_d (pt_1 (fun n d => r_iload gx272_413 rfl) ?_)
        refine pt_d (pt_idiv gx272_415 h33 z4 (fun v34 h34 => ?_))
        refine pt_d (pt_iast (N' := 13) gx272_416 S28 tl_124 h30 h34 (fun h_35 S35 p35 q35 e35 => ?_))
        refine pt_d (pt_1 (fun n d => r_aloadn gx272_417 rfl) ?_)
        refine pt_d (pt_getR gx272_418 S35 tr_72_69 ?_)
        refine pt_d (pt_bipush gx272_421 (fun v37 h37 => ?_))
        refine pt_d (pt_1 (fun n d => r_iload gx272_423 rfl) ?_)
        refine pt_d (pt_if_ge gx272_425 z6 (fun e38 => ?_) (fun e38 => ?_))
        · have H := H.1 e38
          refine pt_d (pt_1 (fun n d => r_aloadn gx272_432 rfl) ?_)
          refine pt_d (pt_1 (fun n d => r_iload gx272_433 rfl) ?_)
          have H := H h_35 S35 (by rw [e35, e28, e25, e18])
          refine pt_d (pt_virt (as := [.int x6]) (r := [.int v37, .ref 124]) gx272_435 rfl (show zmt[240]? = some zM240 from rfl) rfl rfl rfl rfl (c_240 S35 z6) (kqP (fun v39 h39 => ?_)))
          show Pt _ _ _ 438 _ [.int v39, .int v37, .ref 124] _ _
          refine pt_d (pt_iast (N' := 13) gx272_438 S35 tl_124 h37 h39 (fun h_40 S40 p40 q40 e40 => ?_))
          refine pt_d (pt_1 (fun n d => r_aloadn gx272_439 rfl) ?_)
          refine pt_d (pt_getR gx272_440 S40 tr_72_69 ?_)
          refine pt_d (pt_bipush gx272_443 (fun v42 h42 => ?_))
          refine pt_d (pt_1 (fun n d => r_aloadn gx272_445 rfl) ?_)
          refine pt_d (pt_1 (fun n d => r_iloadn gx272_446 rfl) ?_)
          refine pt_d (pt_1 (fun n d => r_iloadn gx272_447 rfl) ?_)
          have H := H h_40 S40 (by rw [e40])
          obtain ⟨pr43, H⟩ := H
          refine pt_d (pt_virt (as := [.int x1, .int x2]) (r := [.int v42, .ref 124]) gx272_448 rfl (show zmt[271]? = some zM271 from rfl) rfl rfl rfl rfl (c_271 S40 z1 z2 pr43) (kqP (fun v43 h43 => ?_)))
          show Pt _ _ _ 451 _ [.int v43, .int v42, .ref 124] _ _
          refine pt_d (pt_iast (N' := 13) gx272_451 S40 tl_124 h42 h43 (fun h_44 S44 p44 q44 e44 => ?_))
          refine pt_d (pt_1 (fun n d => r_aloadn gx272_452 rfl) ?_)
          refine pt_d (pt_getR gx272_453 S44 tr_72_69 ?_)
          refine pt_d (pt_bipush gx272_456 (fun v46 h46 => ?_))
          refine pt_d (pt_1 (fun n d => r_iload gx272_458 rfl) ?_)
          refine pt_d (pt_iast (N' := 13) gx272_460 S44 tl_124 h46 z10 (fun h_47 S47 p47 q47 e47 => ?_))
          refine pt_d (pt_1 (fun n d => r_aloadn gx272_461 rfl) ?_)
          refine pt_d (pt_getR gx272_462 S47 tr_72_69 ?_)
          refine pt_d (pt_bipush gx272_465 (fun v49 h49 => ?_))
          refine pt_d (pt_iconst gx272_467 (fun v50 h50 => ?_))
          refine pt_d (pt_iast (N' := 13) gx272_468 S47 tl_124 h49 h50 (fun h_51 S51 p51 q51 e51 => ?_))
          refine pt_d (pt_1 (fun n d => r_aloadn gx272_469 rfl) ?_)
          refine pt_d (pt_getR gx272_470 S51 tr_72_69 ?_)
          refine pt_d (pt_bipush gx272_473 (fun v53 h53 => ?_))
          refine pt_d (pt_1 (fun n d => r_aloadn gx272_475 rfl) ?_)
          refine pt_d (pt_1 (fun n d => r_iloadn gx272_476 rfl) ?_)
          refine pt_d (pt_1 (fun n d => r_iloadn gx272_477 rfl) ?_)
          refine pt_d (pt_1 (fun n d => r_iloadn gx272_478 rfl) ?_)
          have H := H h_51 S51 (by rw [e51, e47, e44])
          refine pt_d (pt_virt (as := [.int x1, .int x2, .int x3]) (r := [.int v53, .ref 124]) gx272_479 rfl (show zmt[273]? = some zM273 from rfl) rfl rfl rfl rfl (c_273 S51 z1 z2 z3) (kqP (fun v54 h54 => ?_)))
          show Pt _ _ _ 482 _ [.int v54, .int v53, .ref 124] _ _
          refine pt_d (pt_ifB_eq gx272_482 h54 (fun e55 => ?_) (fun e55 => ?_))
          · have H := H.1 e55
            refine pt_d (pt_iconst gx272_489 (fun v56 h56 => ?_))
            refine pt_d (pt_iast (N' := 13) gx272_490 S51 tl_124 h53 h56 (fun h_57 S57 p57 q57 e57 => ?_))
            refine pt_d (pt_1 (fun n d => r_aloadn gx272_491 rfl) ?_)
            refine pt_d (pt_getR gx272_492 S57 tr_72_69 ?_)
            refine pt_d (pt_bipush gx272_495 (fun v59 h59 => ?_))
            refine pt_d (pt_1 (fun n d => r_iload gx272_497 rfl) ?_)
            refine pt_d (pt_iast (N' := 13) gx272_499 S57 tl_124 h59 z9 (fun h_60 S60 p60 q60 e60 => ?_))
            have H := H h_60 S60 (by rw [e60, e57])
            exact pt_d (pt_vret gx272_500 ⟨rfl, H⟩)
          · have H := H.2 e55
            refine pt_d (pt_iconst gx272_485 (fun v61 h61 => ?_))
            refine pt_d (pt_1 (fun n d => r_goto gx272_486) ?_)
            refine pt_d (pt_iast (N' := 13) gx272_490 S51 tl_124 h53 h61 (fun h_62 S62 p62 q62 e62 => ?_))
            refine pt_d (pt_1 (fun n d => r_aloadn gx272_491 rfl) ?_)
            refine pt_d (pt_getR gx272_492 S62 tr_72_69 ?_)
            refine pt_d (pt_bipush gx272_495 (fun v64 h64 => ?_))
            refine pt_d (pt_1 (fun n d => r_iload gx272_497 rfl) ?_)
            refine pt_d (pt_iast (N' := 13) gx272_499 S62 tl_124 h64 z9 (fun h_65 S65 p65 q65 e65 => ?_))
            have H := H h_65 S65 (by rw [e65, e62])
            exact pt_d (pt_vret gx272_500 ⟨rfl, H⟩)
        · have H := H.2 e38
          refine pt_d (pt_iconst gx272_428 (fun v66 h66 => ?_))
          refine pt_d (pt_1 (fun n d => r_goto gx272_429) ?_)
          refine pt_d (pt_iast (N' := 13) gx272_438 S35 tl_124 h37 h66 (fun h_67 S67 p67 q67 e67 => ?_))
          refine pt_d (pt_1 (fun n d => r_aloadn gx272_439 rfl) ?_)
          refine pt_d (pt_getR gx272_440 S67 tr_72_69 ?_)
          refine pt_d (pt_bipush gx272_443 (fun v69 h69 => ?_))
          refine pt_d (pt_1 (fun n d => r_aloadn gx272_445 rfl) ?_)
          refine pt_d (pt_1 (fun n d => r_iloadn gx272_446 rfl) ?_)
          refine pt_d (pt_1 (fun n d => r_iloadn gx272_447 rfl) ?_)
          have H := H h_67 S67 (by rw [e67, e35, e28, e25, e18])
          obtain ⟨pr70, H⟩ := H
          refine pt_d (pt_virt (as := [.int x1, .int x2]) (r := [.int v69, .ref 124]) gx272_448 rfl (show zmt[271]? = some zM271 from rfl) rfl rfl rfl rfl (c_271 S67 z1 z2 pr70) (kqP (fun v70 h70 => ?_)))
          show Pt _ _ _ 451 _ [.int v70, .int v69, .ref 124] _ _
          refine pt_d (pt_iast (N' := 13) gx272_451 S67 tl_124 h69 h70 (fun h_71 S71 p71 q71 e71 => ?_))
          refine pt_d (pt_1 (fun n d => r_aloadn gx272_452 rfl) ?_)
          refine pt_d (pt_getR gx272_453 S71 tr_72_69 ?_)
          refine pt_d (pt_bipush gx272_456 (fun v73 h73 => ?_))
          refine pt_d (pt_1 (fun n d => r_iload gx272_458 rfl) ?_)
          refine pt_d (pt_iast (N' := 13) gx272_460 S71 tl_124 h73 z10 (fun h_74 S74 p74 q74 e74 => ?_))
          refine pt_d (pt_1 (fun n d => r_aloadn gx272_461 rfl) ?_)
          refine pt_d (pt_getR gx272_462 S74 tr_72_69 ?_)
          refine pt_d (pt_bipush gx272_465 (fun v76 h76 => ?_))
          refine pt_d (pt_iconst gx272_467 (fun v77 h77 => ?_))
          refine pt_d (pt_iast (N' := 13) gx272_468 S74 tl_124 h76 h77 (fun h_78 S78 p78 q78 e78 => ?_))
          refine pt_d (pt_1 (fun n d => r_aloadn gx272_469 rfl) ?_)
          refine pt_d (pt_getR gx272_470 S78 tr_72_69 ?_)
          refine pt_d (pt_bipush gx272_473 (fun v80 h80 => ?_))
          refine pt_d (pt_1 (fun n d => r_aloadn gx272_475 rfl) ?_)
          refine pt_d (pt_1 (fun n d => r_iloadn gx272_476 rfl) ?_)
          refine pt_d (pt_1 (fun n d => r_iloadn gx272_477 rfl) ?_)
          refine pt_d (pt_1 (fun n d => r_iloadn gx272_478 rfl) ?_)
          have H := H h_78 S78 (by rw [e78, e74, e71])
          refine pt_d (pt_virt (as := [.int x1, .int x2, .int x3]) (r := [.int v80, .ref 124]) gx272_479 rfl (show zmt[273]? = some zM273 from rfl) rfl rfl rfl rfl (c_273 S78 z1 z2 z3) (kqP (fun v81 h81 => ?_)))
          show Pt _ _ _ 482 _ [.int v81, .int v80, .ref 124] _ _
          refine pt_d (pt_ifB_eq gx272_482 h81 (fun e82 => ?_) (fun e82 => ?_))
          · have H := H.1 e82
            refine pt_d (pt_iconst gx272_489 (fun v83 h83 => ?_))
            refine pt_d (pt_iast (N' := 13) gx272_490 S78 tl_124 h80 h83 (fun h_84 S84 p84 q84 e84 => ?_))
            refine pt_d (pt_1 (fun n d => r_aloadn gx272_491 rfl) ?_)
            refine pt_d (pt_getR gx272_492 S84 tr_72_69 ?_)
            refine pt_d (pt_bipush gx272_495 (fun v86 h86 => ?_))
            refine pt_d (pt_1 (fun n d => r_iload gx272_497 rfl) ?_)
            refine pt_d (pt_iast (N' := 13) gx272_499 S84 tl_124 h86 z9 (fun h_87 S87 p87 q87 e87 => ?_))
            have H := H h_87 S87 (by rw [e87, e84])
            exact pt_d (pt_vret gx272_500 ⟨rfl, H⟩)
          · have H := H.2 e82
            refine pt_d (pt_iconst gx272_485 (fun v88 h88 => ?_))
            refine pt_d (pt_1 (fun n d => r_goto gx272_486) ?_)
            refine pt_d (pt_iast (N' := 13) gx272_490 S78 tl_124 h80 h88 (fun h_89 S89 p89 q89 e89 => ?_))
            refine pt_d (pt_1 (fun n d => r_aloadn gx272_491 rfl) ?_)
            refine pt_d (pt_getR gx272_492 S89 tr_72_69 ?_)
            refine pt_d (pt_bipush gx272_495 (fun v91 h91 => ?_))
            refine pt_d (pt_1 (fun n d => r_iload gx272_497 rfl) ?_)
            refine pt_d (pt_iast (N' := 13) gx272_499 S89 tl_124 h91 z9 (fun h_92 S92 p92 q92 e92 => ?_))
            have H := H h_92 S92 (by rw [e92, e89])
            exact pt_d (pt_vret gx272_500 ⟨rfl, H⟩)
      · have H := H.2 e31
        refine pt_d (pt_iconst gx272_404 (fun v93 h93 => ?_))
        refine pt_d (pt_1 (fun n d => r_goto gx272_405) ?_)
        refine pt_d (pt_iast (N' := 13) gx272_416 S28 tl_124 h30 h93 (fun h_94 S94 p94 q94 e94 => ?_))
        refine pt_d (pt_1 (fun n d => r_aloadn gx272_417 rfl) ?_)
        refine pt_d (pt_getR gx272_418 S94 tr_72_69 ?_)
        refine pt_d (pt_bipush gx272_421 (fun v96 h96 => ?_))
        refine pt_d (pt_1 (fun n d => r_iload gx272_423 rfl) ?_)
        refine pt_d (pt_if_ge gx272_425 z6 (fun e97 => ?_) (fun e97 => ?_))
        · have H := H.1 e97
          refine pt_d (pt_1 (fun n d => r_aloadn gx272_432 rfl) ?_)
          refine pt_d (pt_1 (fun n d => r_iload gx272_433 rfl) ?_)
          have H := H h_94 S94 (by rw [e94, e28, e25, e18])
          refine pt_d (pt_virt (as := [.int x6]) (r := [.int v96, .ref 124]) gx272_435 rfl (show zmt[240]? = some zM240 from rfl) rfl rfl rfl rfl (c_240 S94 z6) (kqP (fun v98 h98 => ?_)))
          show Pt _ _ _ 438 _ [.int v98, .int v96, .ref 124] _ _
          refine pt_d (pt_iast (N' := 13) gx272_438 S94 tl_124 h96 h98 (fun h_99 S99 p99 q99 e99 => ?_))
          refine pt_d (pt_1 (fun n d => r_aloadn gx272_439 rfl) ?_)
          refine pt_d (pt_getR gx272_440 S99 tr_72_69 ?_)
          refine pt_d (pt_bipush gx272_443 (fun v101 h101 => ?_))
          refine pt_d (pt_1 (fun n d => r_aloadn gx272_445 rfl) ?_)
          refine pt_d (pt_1 (fun n d => r_iloadn gx272_446 rfl) ?_)
          refine pt_d (pt_1 (fun n d => r_iloadn gx272_447 rfl) ?_)
          have H := H h_99 S99 (by rw [e99])
          obtain ⟨pr102, H⟩ := H
          refine pt_d (pt_virt (as := [.int x1, .int x2]) (r := [.int v101, .ref 124]) gx272_448 rfl (show zmt[271]? = some zM271 from rfl) rfl rfl rfl rfl (c_271 S99 z1 z2 pr102) (kqP (fun v102 h102 => ?_)))
          show Pt _ _ _ 451 _ [.int v102, .int v101, .ref 124] _ _
          refine pt_d (pt_iast (N' := 13) gx272_451 S99 tl_124 h101 h102 (fun h_103 S103 p103 q103 e103 => ?_))
          refine pt_d (pt_1 (fun n d => r_aloadn gx272_452 rfl) ?_)
          refine pt_d (pt_getR gx272_453 S103 tr_72_69 ?_)
          refine pt_d (pt_bipush gx272_456 (fun v105 h105 => ?_))
          refine pt_d (pt_1 (fun n d => r_iload gx272_458 rfl) ?_)
          refine pt_d (pt_iast (N' := 13) gx272_460 S103 tl_124 h105 z10 (fun h_106 S106 p106 q106 e106 => ?_))
          refine pt_d (pt_1 (fun n d => r_aloadn gx272_461 rfl) ?_)
          refine pt_d (pt_getR gx272_462 S106 tr_72_69 ?_)
          refine pt_d (pt_bipush gx272_465 (fun v108 h108 => ?_))
          refine pt_d (pt_iconst gx272_467 (fun v109 h109 => ?_))
          refine pt_d (pt_iast (N' := 13) gx272_468 S106 tl_124 h108 h109 (fun h_110 S110 p110 q110 e110 => ?_))
          refine pt_d (pt_1 (fun n d => r_aloadn gx272_469 rfl) ?_)
          refine pt_d (pt_getR gx272_470 S110 tr_72_69 ?_)
          refine pt_d (pt_bipush gx272_473 (fun v112 h112 => ?_))
          refine pt_d (pt_1 (fun n d => r_aloadn gx272_475 rfl) ?_)
          refine pt_d (pt_1 (fun n d => r_iloadn gx272_476 rfl) ?_)
          refine pt_d (pt_1 (fun n d => r_iloadn gx272_477 rfl) ?_)
          refine pt_d (pt_1 (fun n d => r_iloadn gx272_478 rfl) ?_)
          have H := H h_110 S110 (by rw [e110, e106, e103])
          refine pt_d (pt_virt (as := [.int x1, .int x2, .int x3]) (r := [.int v112, .ref 124]) gx272_479 rfl (show zmt[273]? = some zM273 from rfl) rfl rfl rfl rfl (c_273 S110 z1 z2 z3) (kqP (fun v113 h113 => ?_)))
          show Pt _ _ _ 482 _ [.int v113, .int v112, .ref 124] _ _
          refine pt_d (pt_ifB_eq gx272_482 h113 (fun e114 => ?_) (fun e114 => ?_))
          · have H := H.1 e114
            refine pt_d (pt_iconst gx272_489 (fun v115 h115 => ?_))
            refine pt_d (pt_iast (N' := 13) gx272_490 S110 tl_124 h112 h115 (fun h_116 S116 p116 q116 e116 => ?_))
            refine pt_d (pt_1 (fun n d => r_aloadn gx272_491 rfl) ?_)
            refine pt_d (pt_getR gx272_492 S116 tr_72_69 ?_)
            refine pt_d (pt_bipush gx272_495 (fun v118 h118 => ?_))
            refine pt_d (pt_1 (fun n d => r_iload gx272_497 rfl) ?_)
            refine pt_d (pt_iast (N' := 13) gx272_499 S116 tl_124 h118 z9 (fun h_119 S119 p119 q119 e119 => ?_))
            have H := H h_119 S119 (by rw [e119, e116])
            exact pt_d (pt_vret gx272_500 ⟨rfl, H⟩)
          · have H := H.2 e114
            refine pt_d (pt_iconst gx272_485 (fun v120 h120 => ?_))
            refine pt_d (pt_1 (fun n d => r_goto gx272_486) ?_)
            refine pt_d (pt_iast (N' := 13) gx272_490 S110 tl_124 h112 h120 (fun h_121 S121 p121 q121 e121 => ?_))
            refine pt_d (pt_1 (fun n d => r_aloadn gx272_491 rfl) ?_)
            refine pt_d (pt_getR gx272_492 S121 tr_72_69 ?_)
            refine pt_d (pt_bipush gx272_495 (fun v123 h123 => ?_))
            refine pt_d (pt_1 (fun n d => r_iload gx272_497 rfl) ?_)
            refine pt_d (pt_iast (N' := 13) gx272_499 S121 tl_124 h123 z9 (fun h_124 S124 p124 q124 e124 => ?_))
            have H := H h_124 S124 (by rw [e124, e121])
            exact pt_d (pt_vret gx272_500 ⟨rfl, H⟩)
        · have H := H.2 e97
          refine pt_d (pt_iconst gx272_428 (fun v125 h125 => ?_))
          refine pt_d (pt_1 (fun n d => r_goto gx272_429) ?_)
          refine pt_d (pt_iast (N' := 13) gx272_438 S94 tl_124 h96 h125 (fun h_126 S126 p126 q126 e126 => ?_))
          refine pt_d (pt_1 (fun n d => r_aloadn gx272_439 rfl) ?_)
          refine pt_d (pt_getR gx272_440 S126 tr_72_69 ?_)
          refine pt_d (pt_bipush gx272_443 (fun v128 h128 => ?_))
          refine pt_d (pt_1 (fun n d => r_aloadn gx272_445 rfl) ?_)
          refine pt_d (pt_1 (fun n d => r_iloadn gx272_446 rfl) ?_)
          refine pt_d (pt_1 (fun n d => r_iloadn gx272_447 rfl) ?_)
          have H := H h_126 S126 (by rw [e126, e94, e28, e25, e18])
          obtain ⟨pr129, H⟩ := H
          refine pt_d (pt_virt (as := [.int x1, .int x2]) (r := [.int v128, .ref 124]) gx272_448 rfl (show zmt[271]? = some zM271 from rfl) rfl rfl rfl rfl (c_271 S126 z1 z2 pr129) (kqP (fun v129 h129 => ?_)))
          show Pt _ _ _ 451 _ [.int v129, .int v128, .ref 124] _ _
          refine pt_d (pt_iast (N' := 13) gx272_451 S126 tl_124 h128 h129 (fun h_130 S130 p130 q130 e130 => ?_))
          refine pt_d (pt_1 (fun n d => r_aloadn gx272_452 rfl) ?_)
          refine pt_d (pt_getR gx272_453 S130 tr_72_69 ?_)
          refine pt_d (pt_bipush gx272_456 (fun v132 h132 => ?_))
          refine pt_d (pt_1 (fun n d => r_iload gx272_458 rfl) ?_)
          refine pt_d (pt_iast (N' := 13) gx272_460 S130 tl_124 h132 z10 (fun h_133 S133 p133 q133 e133 => ?_))
          refine pt_d (pt_1 (fun n d => r_aloadn gx272_461 rfl) ?_)
          refine pt_d (pt_getR gx272_462 S133 tr_72_69 ?_)
          refine pt_d (pt_bipush gx272_465 (fun v135 h135 => ?_))
          refine pt_d (pt_iconst gx272_467 (fun v136 h136 => ?_))
          refine pt_d (pt_iast (N' := 13) gx272_468 S133 tl_124 h135 h136 (fun h_137 S137 p137 q137 e137 => ?_))
          refine pt_d (pt_1 (fun n d => r_aloadn gx272_469 rfl) ?_)
          refine pt_d (pt_getR gx272_470 S137 tr_72_69 ?_)
          refine pt_d (pt_bipush gx272_473 (fun v139 h139 => ?_))
          refine pt_d (pt_1 (fun n d => r_aloadn gx272_475 rfl) ?_)
          refine pt_d (pt_1 (fun n d => r_iloadn gx272_476 rfl) ?_)
          refine pt_d (pt_1 (fun n d => r_iloadn gx272_477 rfl) ?_)
          refine pt_d (pt_1 (fun n d => r_iloadn gx272_478 rfl) ?_)
          have H := H h_137 S137 (by rw [e137, e133, e130])
          refine pt_d (pt_virt (as := [.int x1, .int x2, .int x3]) (r := [.int v139, .ref 124]) gx272_479 rfl (show zmt[273]? = some zM273 from rfl) rfl rfl rfl rfl (c_273 S137 z1 z2 z3) (kqP (fun v140 h140 => ?_)))
          show Pt _ _ _ 482 _ [.int v140, .int v139, .ref 124] _ _
          refine pt_d (pt_ifB_eq gx272_482 h140 (fun e141 => ?_) (fun e141 => ?_))
          · have H := H.1 e141
            refine pt_d (pt_iconst gx272_489 (fun v142 h142 => ?_))
            refine pt_d (pt_iast (N' := 13) gx272_490 S137 tl_124 h139 h142 (fun h_143 S143 p143 q143 e143 => ?_))
            refine pt_d (pt_1 (fun n d => r_aloadn gx272_491 rfl) ?_)
            refine pt_d (pt_getR gx272_492 S143 tr_72_69 ?_)
            refine pt_d (pt_bipush gx272_495 (fun v145 h145 => ?_))
            refine pt_d (pt_1 (fun n d => r_iload gx272_497 rfl) ?_)
            refine pt_d (pt_iast (N' := 13) gx272_499 S143 tl_124 h145 z9 (fun h_146 S146 p146 q146 e146 => ?_))
            have H := H h_146 S146 (by rw [e146, e143])
            exact pt_d (pt_vret gx272_500 ⟨rfl, H⟩)
          · have H := H.2 e141
            refine pt_d (pt_iconst gx272_485 (fun v147 h147 => ?_))
            refine pt_d (pt_1 (fun n d => r_goto gx272_486) ?_)
            refine pt_d (pt_iast (N' := 13) gx272_490 S137 tl_124 h139 h147 (fun h_148 S148 p148 q148 e148 => ?_))
            refine pt_d (pt_1 (fun n d => r_aloadn gx272_491 rfl) ?_)
            refine pt_d (pt_getR gx272_492 S148 tr_72_69 ?_)
            refine pt_d (pt_bipush gx272_495 (fun v150 h150 => ?_))
            refine pt_d (pt_1 (fun n d => r_iload gx272_497 rfl) ?_)
            refine pt_d (pt_iast (N' := 13) gx272_499 S148 tl_124 h150 z9 (fun h_151 S151 p151 q151 e151 => ?_))
            have H := H h_151 S151 (by rw [e151, e148])
            exact pt_d (pt_vret gx272_500 ⟨rfl, H⟩)
    · have H := H.2 e21
      refine pt_d (pt_iconst gx272_372 (fun v152 h152 => ?_))
      refine pt_d (pt_1 (fun n d => r_goto gx272_373) ?_)
      refine pt_d (pt_iast (N' := 13) gx272_384 S18 tl_124 h20 h152 (fun h_153 S153 p153 q153 e153 => ?_))
      refine pt_d (pt_1 (fun n d => r_aloadn gx272_385 rfl) ?_)
      refine pt_d (pt_getR gx272_386 S153 tr_72_69 ?_)
      refine pt_d (pt_iconst gx272_389 (fun v155 h155 => ?_))
      refine pt_d (pt_1 (fun n d => r_iload gx272_390 rfl) ?_)
      refine pt_d (pt_iast (N' := 13) gx272_392 S153 tl_124 h155 z7 (fun h_156 S156 p156 q156 e156 => ?_))
      refine pt_d (pt_1 (fun n d => r_aloadn gx272_393 rfl) ?_)
      refine pt_d (pt_getR gx272_394 S156 tr_72_69 ?_)
      refine pt_d (pt_bipush gx272_397 (fun v158 h158 => ?_))
      refine pt_d (pt_1 (fun n d => r_iload gx272_399 rfl) ?_)
      refine pt_d (pt_if_ne gx272_401 z4 (fun e159 => ?_) (fun e159 => ?_))
      · have H := H.1 e159
        refine pt_d (pt_bipush gx272_408 (fun v160 h160 => ?_))
        refine pt_d (pt_1 (fun n d => r_iload gx272_410 rfl) ?_)
        refine pt_d (pt_imul gx272_412 h160 z8 (fun v161 h161 => ?_))
        refine pt_d (pt_1 (fun n d => r_iload gx272_413 rfl) ?_)
        refine pt_d (pt_idiv gx272_415 h161 z4 (fun v162 h162 => ?_))
        refine pt_d (pt_iast (N' := 13) gx272_416 S156 tl_124 h158 h162 (fun h_163 S163 p163 q163 e163 => ?_))
        refine pt_d (pt_1 (fun n d => r_aloadn gx272_417 rfl) ?_)
        refine pt_d (pt_getR gx272_418 S163 tr_72_69 ?_)
        refine pt_d (pt_bipush gx272_421 (fun v165 h165 => ?_))
        refine pt_d (pt_1 (fun n d => r_iload gx272_423 rfl) ?_)
        refine pt_d (pt_if_ge gx272_425 z6 (fun e166 => ?_) (fun e166 => ?_))
        · have H := H.1 e166
          refine pt_d (pt_1 (fun n d => r_aloadn gx272_432 rfl) ?_)
          refine pt_d (pt_1 (fun n d => r_iload gx272_433 rfl) ?_)
          have H := H h_163 S163 (by rw [e163, e156, e153, e18])
          refine pt_d (pt_virt (as := [.int x6]) (r := [.int v165, .ref 124]) gx272_435 rfl (show zmt[240]? = some zM240 from rfl) rfl rfl rfl rfl (c_240 S163 z6) (kqP (fun v167 h167 => ?_)))
          show Pt _ _ _ 438 _ [.int v167, .int v165, .ref 124] _ _
          refine pt_d (pt_iast (N' := 13) gx272_438 S163 tl_124 h165 h167 (fun h_168 S168 p168 q168 e168 => ?_))
          refine pt_d (pt_1 (fun n d => r_aloadn gx272_439 rfl) ?_)
          refine pt_d (pt_getR gx272_440 S168 tr_72_69 ?_)
          refine pt_d (pt_bipush gx272_443 (fun v170 h170 => ?_))
          refine pt_d (pt_1 (fun n d => r_aloadn gx272_445 rfl) ?_)
          refine pt_d (pt_1 (fun n d => r_iloadn gx272_446 rfl) ?_)
          refine pt_d (pt_1 (fun n d => r_iloadn gx272_447 rfl) ?_)
          have H := H h_168 S168 (by rw [e168])
          obtain ⟨pr171, H⟩ := H
          refine pt_d (pt_virt (as := [.int x1, .int x2]) (r := [.int v170, .ref 124]) gx272_448 rfl (show zmt[271]? = some zM271 from rfl) rfl rfl rfl rfl (c_271 S168 z1 z2 pr171) (kqP (fun v171 h171 => ?_)))
          show Pt _ _ _ 451 _ [.int v171, .int v170, .ref 124] _ _
          refine pt_d (pt_iast (N' := 13) gx272_451 S168 tl_124 h170 h171 (fun h_172 S172 p172 q172 e172 => ?_))
          refine pt_d (pt_1 (fun n d => r_aloadn gx272_452 rfl) ?_)
          refine pt_d (pt_getR gx272_453 S172 tr_72_69 ?_)
          refine pt_d (pt_bipush gx272_456 (fun v174 h174 => ?_))
          refine pt_d (pt_1 (fun n d => r_iload gx272_458 rfl) ?_)
          refine pt_d (pt_iast (N' := 13) gx272_460 S172 tl_124 h174 z10 (fun h_175 S175 p175 q175 e175 => ?_))
          refine pt_d (pt_1 (fun n d => r_aloadn gx272_461 rfl) ?_)
          refine pt_d (pt_getR gx272_462 S175 tr_72_69 ?_)
          refine pt_d (pt_bipush gx272_465 (fun v177 h177 => ?_))
          refine pt_d (pt_iconst gx272_467 (fun v178 h178 => ?_))
          refine pt_d (pt_iast (N' := 13) gx272_468 S175 tl_124 h177 h178 (fun h_179 S179 p179 q179 e179 => ?_))
          refine pt_d (pt_1 (fun n d => r_aloadn gx272_469 rfl) ?_)
          refine pt_d (pt_getR gx272_470 S179 tr_72_69 ?_)
          refine pt_d (pt_bipush gx272_473 (fun v181 h181 => ?_))
          refine pt_d (pt_1 (fun n d => r_aloadn gx272_475 rfl) ?_)
          refine pt_d (pt_1 (fun n d => r_iloadn gx272_476 rfl) ?_)
          refine pt_d (pt_1 (fun n d => r_iloadn gx272_477 rfl) ?_)
          refine pt_d (pt_1 (fun n d => r_iloadn gx272_478 rfl) ?_)
          have H := H h_179 S179 (by rw [e179, e175, e172])
          refine pt_d (pt_virt (as := [.int x1, .int x2, .int x3]) (r := [.int v181, .ref 124]) gx272_479 rfl (show zmt[273]? = some zM273 from rfl) rfl rfl rfl rfl (c_273 S179 z1 z2 z3) (kqP (fun v182 h182 => ?_)))
          show Pt _ _ _ 482 _ [.int v182, .int v181, .ref 124] _ _
          refine pt_d (pt_ifB_eq gx272_482 h182 (fun e183 => ?_) (fun e183 => ?_))
          · have H := H.1 e183
            refine pt_d (pt_iconst gx272_489 (fun v184 h184 => ?_))
            refine pt_d (pt_iast (N' := 13) gx272_490 S179 tl_124 h181 h184 (fun h_185 S185 p185 q185 e185 => ?_))
            refine pt_d (pt_1 (fun n d => r_aloadn gx272_491 rfl) ?_)
            refine pt_d (pt_getR gx272_492 S185 tr_72_69 ?_)
            refine pt_d (pt_bipush gx272_495 (fun v187 h187 => ?_))
            refine pt_d (pt_1 (fun n d => r_iload gx272_497 rfl) ?_)
            refine pt_d (pt_iast (N' := 13) gx272_499 S185 tl_124 h187 z9 (fun h_188 S188 p188 q188 e188 => ?_))
            have H := H h_188 S188 (by rw [e188, e185])
            exact pt_d (pt_vret gx272_500 ⟨rfl, H⟩)
          · have H := H.2 e183
            refine pt_d (pt_iconst gx272_485 (fun v189 h189 => ?_))
            refine pt_d (pt_1 (fun n d => r_goto gx272_486) ?_)
            refine pt_d (pt_iast (N' := 13) gx272_490 S179 tl_124 h181 h189 (fun h_190 S190 p190 q190 e190 => ?_))
            refine pt_d (pt_1 (fun n d => r_aloadn gx272_491 rfl) ?_)
            refine pt_d (pt_getR gx272_492 S190 tr_72_69 ?_)
            refine pt_d (pt_bipush gx272_495 (fun v192 h192 => ?_))
            refine pt_d (pt_1 (fun n d => r_iload gx272_497 rfl) ?_)
            refine pt_d (pt_iast (N' := 13) gx272_499 S190 tl_124 h192 z9 (fun h_193 S193 p193 q193 e193 => ?_))
            have H := H h_193 S193 (by rw [e193, e190])
            exact pt_d (pt_vret gx272_500 ⟨rfl, H⟩)
        · have H := H.2 e166
          refine pt_d (pt_iconst gx272_428 (fun v194 h194 => ?_))
          refine pt_d (pt_1 (fun n d => r_goto gx272_429) ?_)
          refine pt_d (pt_iast (N' := 13) gx272_438 S163 tl_124 h165 h194 (fun h_195 S195 p195 q195 e195 => ?_))
          refine pt_d (pt_1 (fun n d => r_aloadn gx272_439 rfl) ?_)
          refine pt_d (pt_getR gx272_440 S195 tr_72_69 ?_)
          refine pt_d (pt_bipush gx272_443 (fun v197 h197 => ?_))
          refine pt_d (pt_1 (fun n d => r_aloadn gx272_445 rfl) ?_)
          refine pt_d (pt_1 (fun n d => r_iloadn gx272_446 rfl) ?_)
          refine pt_d (pt_1 (fun n d => r_iloadn gx272_447 rfl) ?_)
          have H := H h_195 S195 (by rw [e195, e163, e156, e153, e18])
          obtain ⟨pr198, H⟩ := H
          refine pt_d (pt_virt (as := [.int x1, .int x2]) (r := [.int v197, .ref 124]) gx272_448 rfl (show zmt[271]? = some zM271 from rfl) rfl rfl rfl rfl (c_271 S195 z1 z2 pr198) (kqP (fun v198 h198 => ?_)))
          show Pt _ _ _ 451 _ [.int v198, .int v197, .ref 124] _ _
          refine pt_d (pt_iast (N' := 13) gx272_451 S195 tl_124 h197 h198 (fun h_199 S199 p199 q199 e199 => ?_))
          refine pt_d (pt_1 (fun n d => r_aloadn gx272_452 rfl) ?_)
          refine pt_d (pt_getR gx272_453 S199 tr_72_69 ?_)
          refine pt_d (pt_bipush gx272_456 (fun v201 h201 => ?_))
          refine pt_d (pt_1 (fun n d => r_iload gx272_458 rfl) ?_)
          refine pt_d (pt_iast (N' := 13) gx272_460 S199 tl_124 h201 z10 (fun h_202 S202 p202 q202 e202 => ?_))
          refine pt_d (pt_1 (fun n d => r_aloadn gx272_461 rfl) ?_)
          refine pt_d (pt_getR gx272_462 S202 tr_72_69 ?_)
          refine pt_d (pt_bipush gx272_465 (fun v204 h204 => ?_))
          refine pt_d (pt_iconst gx272_467 (fun v205 h205 => ?_))
          refine pt_d (pt_iast (N' := 13) gx272_468 S202 tl_124 h204 h205 (fun h_206 S206 p206 q206 e206 => ?_))
          refine pt_d (pt_1 (fun n d => r_aloadn gx272_469 rfl) ?_)
          refine pt_d (pt_getR gx272_470 S206 tr_72_69 ?_)
          refine pt_d (pt_bipush gx272_473 (fun v208 h208 => ?_))
          refine pt_d (pt_1 (fun n d => r_aloadn gx272_475 rfl) ?_)
          refine pt_d (pt_1 (fun n d => r_iloadn gx272_476 rfl) ?_)
          refine pt_d (pt_1 (fun n d => r_iloadn gx272_477 rfl) ?_)
          refine pt_d (pt_1 (fun n d => r_iloadn gx272_478 rfl) ?_)
          have H := H h_206 S206 (by rw [e206, e202, e199])
          refine pt_d (pt_virt (as := [.int x1, .int x2, .int x3]) (r := [.int v208, .ref 124]) gx272_479 rfl (show zmt[273]? = some zM273 from rfl) rfl rfl rfl rfl (c_273 S206 z1 z2 z3) (kqP (fun v209 h209 => ?_)))
          show Pt _ _ _ 482 _ [.int v209, .int v208, .ref 124] _ _
          refine pt_d (pt_ifB_eq gx272_482 h209 (fun e210 => ?_) (fun e210 => ?_))
          · have H := H.1 e210
            refine pt_d (pt_iconst gx272_489 (fun v211 h211 => ?_))
            refine pt_d (pt_iast (N' := 13) gx272_490 S206 tl_124 h208 h211 (fun h_212 S212 p212 q212 e212 => ?_))
            refine pt_d (pt_1 (fun n d => r_aloadn gx272_491 rfl) ?_)
            refine pt_d (pt_getR gx272_492 S212 tr_72_69 ?_)
            refine pt_d (pt_bipush gx272_495 (fun v214 h214 => ?_))
            refine pt_d (pt_1 (fun n d => r_iload gx272_497 rfl) ?_)
            refine pt_d (pt_iast (N' := 13) gx272_499 S212 tl_124 h214 z9 (fun h_215 S215 p215 q215 e215 => ?_))
            have H := H h_215 S215 (by rw [e215, e212])
            exact pt_d (pt_vret gx272_500 ⟨rfl, H⟩)
          · have H := H.2 e210
            refine pt_d (pt_iconst gx272_485 (fun v216 h216 => ?_))
            refine pt_d (pt_1 (fun n d => r_goto gx272_486) ?_)
            refine pt_d (pt_iast (N' := 13) gx272_490 S206 tl_124 h208 h216 (fun h_217 S217 p217 q217 e217 => ?_))
            refine pt_d (pt_1 (fun n d => r_aloadn gx272_491 rfl) ?_)
            refine pt_d (pt_getR gx272_492 S217 tr_72_69 ?_)
            refine pt_d (pt_bipush gx272_495 (fun v219 h219 => ?_))
            refine pt_d (pt_1 (fun n d => r_iload gx272_497 rfl) ?_)
            refine pt_d (pt_iast (N' := 13) gx272_499 S217 tl_124 h219 z9 (fun h_220 S220 p220 q220 e220 => ?_))
            have H := H h_220 S220 (by rw [e220, e217])
            exact pt_d (pt_vret gx272_500 ⟨rfl, H⟩)
      · have H := H.2 e159
        refine pt_d (pt_iconst gx272_404 (fun v221 h221 => ?_))
        refine pt_d (pt_1 (fun n d => r_goto gx272_405) ?_)
        refine pt_d (pt_iast (N' := 13) gx272_416 S156 tl_124 h158 h221 (fun h_222 S222 p222 q222 e222 => ?_))
        refine pt_d (pt_1 (fun n d => r_aloadn gx272_417 rfl) ?_)
        refine pt_d (pt_getR gx272_418 S222 tr_72_69 ?_)
        refine pt_d (pt_bipush gx272_421 (fun v224 h224 => ?_))
        refine pt_d (pt_1 (fun n d => r_iload gx272_423 rfl) ?_)
        refine pt_d (pt_if_ge gx272_425 z6 (fun e225 => ?_) (fun e225 => ?_))
        · have H := H.1 e225
          refine pt_d (pt_1 (fun n d => r_aloadn gx272_432 rfl) ?_)
          refine pt_d (pt_1 (fun n d => r_iload gx272_433 rfl) ?_)
          have H := H h_222 S222 (by rw [e222, e156, e153, e18])
          refine pt_d (pt_virt (as := [.int x6]) (r := [.int v224, .ref 124]) gx272_435 rfl (show zmt[240]? = some zM240 from rfl) rfl rfl rfl rfl (c_240 S222 z6) (kqP (fun v226 h226 => ?_)))
          show Pt _ _ _ 438 _ [.int v226, .int v224, .ref 124] _ _
          refine pt_d (pt_iast (N' := 13) gx272_438 S222 tl_124 h224 h226 (fun h_227 S227 p227 q227 e227 => ?_))
          refine pt_d (pt_1 (fun n d => r_aloadn gx272_439 rfl) ?_)
          refine pt_d (pt_getR gx272_440 S227 tr_72_69 ?_)
          refine pt_d (pt_bipush gx272_443 (fun v229 h229 => ?_))
          refine pt_d (pt_1 (fun n d => r_aloadn gx272_445 rfl) ?_)
          refine pt_d (pt_1 (fun n d => r_iloadn gx272_446 rfl) ?_)
          refine pt_d (pt_1 (fun n d => r_iloadn gx272_447 rfl) ?_)
          have H := H h_227 S227 (by rw [e227])
          obtain ⟨pr230, H⟩ := H
          refine pt_d (pt_virt (as := [.int x1, .int x2]) (r := [.int v229, .ref 124]) gx272_448 rfl (show zmt[271]? = some zM271 from rfl) rfl rfl rfl rfl (c_271 S227 z1 z2 pr230) (kqP (fun v230 h230 => ?_)))
          show Pt _ _ _ 451 _ [.int v230, .int v229, .ref 124] _ _
          refine pt_d (pt_iast (N' := 13) gx272_451 S227 tl_124 h229 h230 (fun h_231 S231 p231 q231 e231 => ?_))
          refine pt_d (pt_1 (fun n d => r_aloadn gx272_452 rfl) ?_)
          refine pt_d (pt_getR gx272_453 S231 tr_72_69 ?_)
          refine pt_d (pt_bipush gx272_456 (fun v233 h233 => ?_))
          refine pt_d (pt_1 (fun n d => r_iload gx272_458 rfl) ?_)
          refine pt_d (pt_iast (N' := 13) gx272_460 S231 tl_124 h233 z10 (fun h_234 S234 p234 q234 e234 => ?_))
          refine pt_d (pt_1 (fun n d => r_aloadn gx272_461 rfl) ?_)
          refine pt_d (pt_getR gx272_462 S234 tr_72_69 ?_)
          refine pt_d (pt_bipush gx272_465 (fun v236 h236 => ?_))
          refine pt_d (pt_iconst gx272_467 (fun v237 h237 => ?_))
          refine pt_d (pt_iast (N' := 13) gx272_468 S234 tl_124 h236 h237 (fun h_238 S238 p238 q238 e238 => ?_))
          refine pt_d (pt_1 (fun n d => r_aloadn gx272_469 rfl) ?_)
          refine pt_d (pt_getR gx272_470 S238 tr_72_69 ?_)
          refine pt_d (pt_bipush gx272_473 (fun v240 h240 => ?_))
          refine pt_d (pt_1 (fun n d => r_aloadn gx272_475 rfl) ?_)
          refine pt_d (pt_1 (fun n d => r_iloadn gx272_476 rfl) ?_)
          refine pt_d (pt_1 (fun n d => r_iloadn gx272_477 rfl) ?_)
          refine pt_d (pt_1 (fun n d => r_iloadn gx272_478 rfl) ?_)
          have H := H h_238 S238 (by rw [e238, e234, e231])
          refine pt_d (pt_virt (as := [.int x1, .int x2, .int x3]) (r := [.int v240, .ref 124]) gx272_479 rfl (show zmt[273]? = some zM273 from rfl) rfl rfl rfl rfl (c_273 S238 z1 z2 z3) (kqP (fun v241 h241 => ?_)))
          show Pt _ _ _ 482 _ [.int v241, .int v240, .ref 124] _ _
          refine pt_d (pt_ifB_eq gx272_482 h241 (fun e242 => ?_) (fun e242 => ?_))
          · have H := H.1 e242
            refine pt_d (pt_iconst gx272_489 (fun v243 h243 => ?_))
            refine pt_d (pt_iast (N' := 13) gx272_490 S238 tl_124 h240 h243 (fun h_244 S244 p244 q244 e244 => ?_))
            refine pt_d (pt_1 (fun n d => r_aloadn gx272_491 rfl) ?_)
            refine pt_d (pt_getR gx272_492 S244 tr_72_69 ?_)
            refine pt_d (pt_bipush gx272_495 (fun v246 h246 => ?_))
            refine pt_d (pt_1 (fun n d => r_iload gx272_497 rfl) ?_)
            refine pt_d (pt_iast (N' := 13) gx272_499 S244 tl_124 h246 z9 (fun h_247 S247 p247 q247 e247 => ?_))
            have H := H h_247 S247 (by rw [e247, e244])
            exact pt_d (pt_vret gx272_500 ⟨rfl, H⟩)
          · have H := H.2 e242
            refine pt_d (pt_iconst gx272_485 (fun v248 h248 => ?_))
            refine pt_d (pt_1 (fun n d => r_goto gx272_486) ?_)
            refine pt_d (pt_iast (N' := 13) gx272_490 S238 tl_124 h240 h248 (fun h_249 S249 p249 q249 e249 => ?_))
            refine pt_d (pt_1 (fun n d => r_aloadn gx272_491 rfl) ?_)
            refine pt_d (pt_getR gx272_492 S249 tr_72_69 ?_)
            refine pt_d (pt_bipush gx272_495 (fun v251 h251 => ?_))
            refine pt_d (pt_1 (fun n d => r_iload gx272_497 rfl) ?_)
            refine pt_d (pt_iast (N' := 13) gx272_499 S249 tl_124 h251 z9 (fun h_252 S252 p252 q252 e252 => ?_))
            have H := H h_252 S252 (by rw [e252, e249])
            exact pt_d (pt_vret gx272_500 ⟨rfl, H⟩)
        · have H := H.2 e225
          refine pt_d (pt_iconst gx272_428 (fun v253 h253 => ?_))
          refine pt_d (pt_1 (fun n d => r_goto gx272_429) ?_)
          refine pt_d (pt_iast (N' := 13) gx272_438 S222 tl_124 h224 h253 (fun h_254 S254 p254 q254 e254 => ?_))
          refine pt_d (pt_1 (fun n d => r_aloadn gx272_439 rfl) ?_)
          refine pt_d (pt_getR gx272_440 S254 tr_72_69 ?_)
          refine pt_d (pt_bipush gx272_443 (fun v256 h256 => ?_))
          refine pt_d (pt_1 (fun n d => r_aloadn gx272_445 rfl) ?_)
          refine pt_d (pt_1 (fun n d => r_iloadn gx272_446 rfl) ?_)
          refine pt_d (pt_1 (fun n d => r_iloadn gx272_447 rfl) ?_)
          have H := H h_254 S254 (by rw [e254, e222, e156, e153, e18])
          obtain ⟨pr257, H⟩ := H
          refine pt_d (pt_virt (as := [.int x1, .int x2]) (r := [.int v256, .ref 124]) gx272_448 rfl (show zmt[271]? = some zM271 from rfl) rfl rfl rfl rfl (c_271 S254 z1 z2 pr257) (kqP (fun v257 h257 => ?_)))
          show Pt _ _ _ 451 _ [.int v257, .int v256, .ref 124] _ _
          refine pt_d (pt_iast (N' := 13) gx272_451 S254 tl_124 h256 h257 (fun h_258 S258 p258 q258 e258 => ?_))
          refine pt_d (pt_1 (fun n d => r_aloadn gx272_452 rfl) ?_)
          refine pt_d (pt_getR gx272_453 S258 tr_72_69 ?_)
          refine pt_d (pt_bipush gx272_456 (fun v260 h260 => ?_))
          refine pt_d (pt_1 (fun n d => r_iload gx272_458 rfl) ?_)
          refine pt_d (pt_iast (N' := 13) gx272_460 S258 tl_124 h260 z10 (fun h_261 S261 p261 q261 e261 => ?_))
          refine pt_d (pt_1 (fun n d => r_aloadn gx272_461 rfl) ?_)
          refine pt_d (pt_getR gx272_462 S261 tr_72_69 ?_)
          refine pt_d (pt_bipush gx272_465 (fun v263 h263 => ?_))
          refine pt_d (pt_iconst gx272_467 (fun v264 h264 => ?_))
          refine pt_d (pt_iast (N' := 13) gx272_468 S261 tl_124 h263 h264 (fun h_265 S265 p265 q265 e265 => ?_))
          refine pt_d (pt_1 (fun n d => r_aloadn gx272_469 rfl) ?_)
          refine pt_d (pt_getR gx272_470 S265 tr_72_69 ?_)
          refine pt_d (pt_bipush gx272_473 (fun v267 h267 => ?_))
          refine pt_d (pt_1 (fun n d => r_aloadn gx272_475 rfl) ?_)
          refine pt_d (pt_1 (fun n d => r_iloadn gx272_476 rfl) ?_)
          refine pt_d (pt_1 (fun n d => r_iloadn gx272_477 rfl) ?_)
          refine pt_d (pt_1 (fun n d => r_iloadn gx272_478 rfl) ?_)
          have H := H h_265 S265 (by rw [e265, e261, e258])
          refine pt_d (pt_virt (as := [.int x1, .int x2, .int x3]) (r := [.int v267, .ref 124]) gx272_479 rfl (show zmt[273]? = some zM273 from rfl) rfl rfl rfl rfl (c_273 S265 z1 z2 z3) (kqP (fun v268 h268 => ?_)))
          show Pt _ _ _ 482 _ [.int v268, .int v267, .ref 124] _ _
          refine pt_d (pt_ifB_eq gx272_482 h268 (fun e269 => ?_) (fun e269 => ?_))
          · have H := H.1 e269
            refine pt_d (pt_iconst gx272_489 (fun v270 h270 => ?_))
            refine pt_d (pt_iast (N' := 13) gx272_490 S265 tl_124 h267 h270 (fun h_271 S271 p271 q271 e271 => ?_))
            refine pt_d (pt_1 (fun n d => r_aloadn gx272_491 rfl) ?_)
            refine pt_d (pt_getR gx272_492 S271 tr_72_69 ?_)
            refine pt_d (pt_bipush gx272_495 (fun v273 h273 => ?_))
            refine pt_d (pt_1 (fun n d => r_iload gx272_497 rfl) ?_)
            refine pt_d (pt_iast (N' := 13) gx272_499 S271 tl_124 h273 z9 (fun h_274 S274 p274 q274 e274 => ?_))
            have H := H h_274 S274 (by rw [e274, e271])
            exact pt_d (pt_vret gx272_500 ⟨rfl, H⟩)
          · have H := H.2 e269
            refine pt_d (pt_iconst gx272_485 (fun v275 h275 => ?_))
            refine pt_d (pt_1 (fun n d => r_goto gx272_486) ?_)
            refine pt_d (pt_iast (N' := 13) gx272_490 S265 tl_124 h267 h275 (fun h_276 S276 p276 q276 e276 => ?_))
            refine pt_d (pt_1 (fun n d => r_aloadn gx272_491 rfl) ?_)
            refine pt_d (pt_getR gx272_492 S276 tr_72_69 ?_)
            refine pt_d (pt_bipush gx272_495 (fun v278 h278 => ?_))
            refine pt_d (pt_1 (fun n d => r_iload gx272_497 rfl) ?_)
            refine pt_d (pt_iast (N' := 13) gx272_499 S276 tl_124 h278 z9 (fun h_279 S279 p279 q279 e279 => ?_))
            have H := H h_279 S279 (by rw [e279, e276])
            exact pt_d (pt_vret gx272_500 ⟨rfl, H⟩)
  · have H := H.2 e2
    refine pt_d (pt_1 (fun n d => r_iload gx272_272 rfl) ?_)
    refine pt_d (pt_1 (fun n d => r_aloadn gx272_274 rfl) ?_)
    refine pt_d (pt_getR gx272_275 S tr_72_3 ?_)
    refine pt_d (pt_1 (fun n d => r_iload gx272_278 rfl) ?_)
    refine pt_d (pt_iald (N' := 150) gx272_280 S tl_73 z11 (fun v281 p281 q281 h281 => ?_))
    have H := H p281 q281
    refine pt_d (pt_bipush gx272_281 (fun v282 h282 => ?_))
    refine pt_d (pt_icmp_ne gx272_283 h281 h282 (fun e283 => ?_) (fun e283 => ?_))
    · have H := H.1 e283
      refine pt_d (pt_iconst gx272_312 (fun v284 h284 => ?_))
      refine pt_d (pt_iadd gx272_313 z10 h284 (fun v285 h285 => ?_))
      refine pt_d (pt_1 (fun n d => r_istore (L' := [some (.ref 72), some (.int x1), some (.int x2), some (.int x3), some (.int x4), some (.int x5), some (.int x6), some (.int x7), some (.int x8), some (.int x9), some (.int v285), some (.int x11)]) gx272_314 rfl rfl) ?_)
      refine pt_d (pt_iinc (c := 1) gx272_316 rfl z11 (fun v286 h286 => ?_))
      show Pt _ _ _ _ [some (.ref 72), some (.int x1), some (.int x2), some (.int x3), some (.int x4), some (.int x5), some (.int x6), some (.int x7), some (.int x8), some (.int x9), some (.int v285), some (.int v286)] [] _ _
      refine pt_d (pt_1 (fun n d => r_goto gx272_319) ?_)
      exact H v285 v286 h285 h286
    · have H := H.2 e283
      refine pt_d (pt_1 (fun n d => r_aloadn gx272_286 rfl) ?_)
      refine pt_d (pt_1 (fun n d => r_iload gx272_287 rfl) ?_)
      refine pt_d (pt_sipush gx272_289 (fun v287 h287 => ?_))
      refine pt_d (pt_1 (fun n d => r_iloadn gx272_292 rfl) ?_)
      refine pt_d (pt_imul gx272_293 h287 z2 (fun v288 h288 => ?_))
      refine pt_d (pt_sipush gx272_294 (fun v289 h289 => ?_))
      refine pt_d (pt_iadd gx272_297 h288 h289 (fun v290 h290 => ?_))
      refine pt_d (pt_iconst gx272_298 (fun v291 h291 => ?_))
      refine pt_d (pt_isub gx272_299 h290 h291 (fun v292 h292 => ?_))
      refine pt_d (pt_1 (fun n d => r_iloadn gx272_300 rfl) ?_)
      obtain ⟨pr293, H⟩ := H
      refine pt_d (pt_virt (as := [.int x11, .int v292, .int x3]) (r := [.int x10]) gx272_301 rfl (show zmt[226]? = some zM226 from rfl) rfl rfl rfl rfl (c_226 S z11 h292 z3 pr293) (kqP (fun v293 h293 => ?_)))
      show Pt _ _ _ 304 _ [.int v293, .int x10] _ _
      refine pt_d (pt_1 (fun n d => r_iloadn gx272_304 rfl) ?_)
      refine pt_d (pt_icmp_ne gx272_305 h293 z1 (fun e294 => ?_) (fun e294 => ?_))
      · have H := H.1 e294
        refine pt_d (pt_iconst gx272_312 (fun v295 h295 => ?_))
        refine pt_d (pt_iadd gx272_313 z10 h295 (fun v296 h296 => ?_))
        refine pt_d (pt_1 (fun n d => r_istore (L' := [some (.ref 72), some (.int x1), some (.int x2), some (.int x3), some (.int x4), some (.int x5), some (.int x6), some (.int x7), some (.int x8), some (.int x9), some (.int v296), some (.int x11)]) gx272_314 rfl rfl) ?_)
        refine pt_d (pt_iinc (c := 1) gx272_316 rfl z11 (fun v297 h297 => ?_))
        show Pt _ _ _ _ [some (.ref 72), some (.int x1), some (.int x2), some (.int x3), some (.int x4), some (.int x5), some (.int x6), some (.int x7), some (.int x8), some (.int x9), some (.int v296), some (.int v297)] [] _ _
        refine pt_d (pt_1 (fun n d => r_goto gx272_319) ?_)
        exact H v296 v297 h296 h297
      · have H := H.2 e294
        refine pt_d (pt_iconst gx272_308 (fun v298 h298 => ?_))
        refine pt_d (pt_1 (fun n d => r_goto gx272_309) ?_)
        refine pt_d (pt_iadd gx272_313 z10 h298 (fun v299 h299 => ?_))
        refine pt_d (pt_1 (fun n d => r_istore (L' := [some (.ref 72), some (.int x1), some (.int x2), some (.int x3), some (.int x4), some (.int x5), some (.int x6), some (.int x7), some (.int x8), some (.int x9), some (.int v299), some (.int x11)]) gx272_314 rfl rfl) ?_)
        refine pt_d (pt_iinc (c := 1) gx272_316 rfl z11 (fun v300 h300 => ?_))
        show Pt _ _ _ _ [some (.ref 72), some (.int x1), some (.int x2), some (.int x3), some (.int x4), some (.int x5), some (.int x6), some (.int x7), some (.int x8), some (.int x9), some (.int v299), some (.int v300)] [] _ _
        refine pt_d (pt_1 (fun n d => r_goto gx272_319) ?_)
        exact H v299 v300 h299 h300
def lkW (V : vS) (f y c : Int) : Prop := V 103 c ≠ 0 ∧ V 87 c = f ∧ iDiv (V 90 c) 365 = y
noncomputable def mcS (V : vS) (f y j : Int) (n : Nat) : Int := sgm (fun c => pI (lkW V f y c ∧ V 89 c = j) (V 104 c)) n
noncomputable def mmS (V : vS) (f y : Int) (n : Nat) : Int := sgm (fun c => pI (lkW V f y c ∧ V 73 (V 88 c) = 5) (V 104 c)) n
theorem mcS_s (V : vS) (f y j : Int) (n : Nat) : mcS V f y j (n + 1) = mcS V f y j n + pI (lkW V f y (n : Nat) ∧ V 89 (n : Nat) = j) (V 104 (n : Nat)) := rfl
theorem mmS_s (V : vS) (f y : Int) (n : Nat) : mmS V f y (n + 1) = mmS V f y n + pI (lkW V f y (n : Nat) ∧ V 73 (V 88 (n : Nat)) = 5) (V 104 (n : Nat)) := rfl
noncomputable def lasN (P : Int → Prop) : Nat → Int
  | 0 => -1
  | k + 1 => @ite Int (P (k : Nat)) (Classical.propDecidable _) (k : Nat) (lasN P k)
theorem lasN_t {P : Int → Prop} {k : Nat} (h : P (k : Nat)) : lasN P (k + 1) = (k : Nat) := if_pos h
theorem lasN_f {P : Int → Prop} {k : Nat} (h : ¬ P (k : Nat)) : lasN P (k + 1) = lasN P k := if_neg h
def ldM (y : Int) : Int := w32 (w32 (w32 (365 * y) + 365) - 1)
def earM (V : vS) (f y : Int) : Prop := w32 (mSm V f y 105 (V 72 19).toNat) < w32 (mSm V f y 104 (V 72 19).toNat)
noncomputable def sM (V : vS) (f y : Int) : Int := w32 (mSm V f y 104 (V 72 19).toNat)
noncomputable def topM (V : vS) (f y : Int) : Int := mxN (fun j => w32 (mcS V f y j (V 72 19).toNat)) 8
noncomputable def crpM (V : vS) (f y : Int) : Int := nQ (fun j => 0 < w32 (mcS V f y j (V 72 19).toNat)) 8
noncomputable def perM (V : vS) (f y t : Int) : Int := nQ (fun b => V 73 b = 6 ∧ mHold V b (ldM y) t = f) (V 72 2).toNat
noncomputable def lateM (V : vS) (f y : Int) : Int := if lasN (lkW V f y) (V 72 19).toNat < 0 then 0 else lt0 V (lasN (lkW V f y) (V 72 19).toNat)
def FF (V : vS) (f y t : Int) (W : vS) : Prop := (∀ (c : Nat) j, c ≠ 124 → c ≠ 126 → W c j = V c j) ∧ ((W 124 0 = y ∧ W 124 1 = V 73 f ∧ W 124 2 = sM V f y ∧ W 124 3 = w32 (mSm V f y 105 (V 72 19).toNat)) ∧ W 124 4 = (if sM V f y = 0 then 0 else iDiv (w32 (100 * w32 (mmS V f y (V 72 19).toNat))) (sM V f y)) ∧ W 124 5 = crpM V f y ∧ W 124 6 = (if sM V f y = 0 then 0 else iDiv (w32 (100 * topM V f y)) (sM V f y))) ∧ (W 124 7 = lateM V f y ∧ W 124 8 = mErr V f y ∧ W 124 9 = perM V f y t) ∧ W 124 10 = 0 ∧ W 124 11 = bI (mPrv V f y t) ∧ W 124 12 = nQ (earM V f) y.toNat
theorem fin_m {V A B C D W : vS} {y0 y1 y2 y3 y4 y5 y6 y7 y8 y9 y10 y11 y12 : Int} (eA : A = up (up (up V 124 0 y0) 124 1 y1) 124 2 y2) (eB : B = up (up (up (up A 124 3 y3) 124 4 y4) 124 5 y5) 124 6 y6) (eC : C = up B 124 7 y7) (eD : D = up (up (up C 124 8 y8) 124 9 y9) 124 10 y10) (eW : W = up (up D 124 11 y11) 124 12 y12) : (∀ (c : Nat) j, c ≠ 124 → W c j = V c j) ∧ (W 124 0 = y0 ∧ W 124 1 = y1 ∧ W 124 2 = y2 ∧ W 124 3 = y3) ∧ (W 124 4 = y4 ∧ W 124 5 = y5 ∧ W 124 6 = y6) ∧ (W 124 7 = y7 ∧ W 124 8 = y8 ∧ W 124 9 = y9) ∧ W 124 10 = y10 ∧ W 124 11 = y11 ∧ W 124 12 = y12 := by
  subst eA eB eC eD eW
  refine ⟨fun c j z => ?_, ⟨rfl, rfl, rfl, rfl⟩, ⟨rfl, rfl, rfl⟩, ⟨rfl, rfl, rfl⟩, rfl, rfl, rfl⟩
  rw [up_c z, up_c z, up_c z, up_c z, up_c z, up_c z, up_c z, up_c z, up_c z, up_c z, up_c z, up_c z, up_c z]
theorem mSm_w {V W : vS} (e : ∀ (c : Nat) j, c ≠ 124 → c ≠ 126 → W c j = V c j) (f y : Int) {r : Nat} (hr : r ≠ 124 ∧ r ≠ 126) (n : Nat) : mSm W f y r n = mSm V f y r n := by
  unfold mSm
  refine sgm_c n (fun c _ _ => ?_)
  rw [e 103 c (by decide) (by decide), e 87 c (by decide) (by decide), e 90 c (by decide) (by decide), e r c hr.1 hr.2]
theorem mErr_w {V W : vS} (e : ∀ (c : Nat) j, c ≠ 124 → c ≠ 126 → W c j = V c j) (f y : Int) : mErr W f y = mErr V f y := by
  unfold mErr
  rw [e 72 19 (by decide) (by decide), mSm_w e f y (r := 104) (by decide), mSm_w e f y (r := 105) (by decide)]
theorem lt0_w {V W : vS} (e : ∀ (c : Nat) j, c ≠ 124 → c ≠ 126 → W c j = V c j) (c : Int) : lt0 W c = lt0 V c := by
  unfold lt0
  rw [e 90 c (by decide) (by decide), e 87 c (by decide) (by decide), e 74 _ (by decide) (by decide), e 91 _ (by decide) (by decide)]


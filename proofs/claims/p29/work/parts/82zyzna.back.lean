-- ===== settled, back =====
theorem NMf_7 (V : vS) (f y t : Int) : 0 ≤ NMf V f y t 7 := by
  by_cases e : ∃ N, NMS V f y t N
  · obtain ⟨N, n⟩ := e
    rw [NMf_e n 7 (by decide) (by decide), n.2.2.1.1]
    split
    · exact Int.le_refl _
    · unfold lt0
      split
      · rename_i h; exact h
      · exact Int.le_refl _
  · unfold NMf
    rw [dif_neg e]
    exact Int.le_refl _
theorem cut_b {s m : Int} (hs : 0 ≤ s ∧ s ≤ 2000000000) (hm : 0 ≤ m ∧ m ≤ 100) (a : Int) (ha : 0 ≤ a ∧ a ≤ 99) : 0 ≤ jDiv (w64 (w64 (s * m) + a)) 100 ∧ jDiv (w64 (w64 (s * m) + a)) 100 ≤ s := by
  have h0 : 0 ≤ s * m := Int.mul_nonneg hs.1 hm.1
  have h1 : s * m ≤ s * 100 := Int.mul_le_mul_of_nonneg_left hm.2 hs.1
  generalize s * m = p at h0 h1 ⊢
  rw [w64_id (z := p) (by omega) (by omega), w64_id (by omega) (by omega), jDiv_pos (by omega) (by omega) (by decide) (by decide)]
  omega
theorem s5_b {N : Int → Int} {s : Int} (hN : 0 ≤ N 7) (hs : 0 ≤ s ∧ s ≤ 2000000000) : 0 ≤ s5F N s ∧ s5F N s ≤ 2000000000 := by
  unfold s5F
  have c := cut_b (m := min 100 (N 7)) hs (by omega) 0 (by decide)
  have e : w64 (w64 (s * min 100 (N 7)) + 0) = w64 (s * min 100 (N 7)) := by
    rw [Int.add_zero]
    unfold w64
    omega
  rw [e] at c
  generalize jDiv (w64 (s * min 100 (N 7))) 100 = d at c ⊢
  rw [w32_id (z := d) (by omega) (by omega), w32_id (by omega) (by omega)]
  omega
theorem fnd_b {s v mj : Int} (hs : 0 ≤ s ∧ s ≤ 2000000000) : 0 ≤ fnd s v mj ∧ fnd s v mj ≤ 2000000000 := by
  unfold fnd
  split
  · exact hs
  · have c := cut_b (m := max 0 (min 100 v)) hs (by omega) 99 (by decide)
    generalize jDiv (w64 (w64 (s * max 0 (min 100 v)) + 99)) 100 = d at c ⊢
    rw [w32_id (z := d) (by omega) (by omega), w32_id (by omega) (by omega)]
    omega
theorem payF_b (V : vS) (f y t r : Int) : 0 ≤ payF V f y t r ∧ payF V f y t r ≤ 2000000000 := by
  unfold payF p5F
  refine s5_b (NMf_7 V f y t) ?_
  have h1 : 0 ≤ p1F V (NMf V f y t) f y t r ∧ p1F V (NMf V f y t) f y t r ≤ 2000000000 := hel_b _
  have h2 : 0 ≤ p2F V (NMf V f y t) f y t r ∧ p2F V (NMf V f y t) f y t r ≤ 2000000000 := by
    unfold p2F s2F grn
    split
    · exact h1
    · exact hel_b _
  have h3 : 0 ≤ p3F V (NMf V f y t) f y t r ∧ p3F V (NMf V f y t) f y t r ≤ 2000000000 := by
    unfold p3F s3F spF
    split
    · exact h2
    · omega
  unfold p4F s4F fin
  split
  · exact h3
  · exact fnd_b h3
def JSet (V : vS) : Prop := ∀ j, 0 ≤ j → j < 1500 → V 46 j = V 129 j ∧ 0 ≤ V 46 j ∧ V 46 j ≤ 2000000000
def LSet : List (Nat × Option Nat) := [(46, none), (129, none)]
theorem JSet_ag {V W : vS} (J : JSet V) (A : ag LSet V W) : JSet W := by
  obtain ⟨a1, a2, -⟩ := A
  intro j u v
  rw [a1, a2]
  exact J j u v
theorem JSet_dG {W : List (Nat × Nat)} {σ σ1 : List Nat} {h h1 : aH} (J : JSet (vw h)) (I : dI σ h) (G : dG W σ h σ1 h1) (k : frL W LSet = true) : JSet (vw h1) := JSet_ag J (ag_dG I.1 G _ k)
theorem zJSet0 : JSet (vw zH0) := fun j u v => by rw [vz zh46, vz zh129]; exact ⟨rfl, by decide, by decide⟩

theorem d14_0 {n : Nat} {X : aX} {h : aH} {P : Int → aH → Prop} {x1 x2 : Int32} {a1 a2 : Int} (S : wS h) (z1 : x1.toInt = a1) (z2 : x2.toInt = a2) (H : ((pr8p h a1 a2 (vw h 1 0) (-1)) ∧ ∀ (y4 : Int) (h_4 : aH), (RP8 h a1 a2 (vw h 1 0) (-1) y4 h_4) → (0 ≤ w32 ((w32 (a1 * 10)) + a2) → w32 ((w32 (a1 * 10)) + a2) < 1500 → ∀ h_9 : aH, wS h_9 → vw h_9 = up (vw h_4) 46 (w32 ((w32 (a1 * 10)) + a2)) y4 → P y4 h_9))) : Pt (n + 1) X zM14 0 [some (.ref 41), some (.int x1), some (.int x2), none] [] h (qI P) := by
  refine pt_1 (fun n d => r_aloadn gx14_0 rfl) ?_
  refine pt_d (pt_1 (fun n d => r_iloadn gx14_1 rfl) ?_)
  refine pt_d (pt_1 (fun n d => r_iloadn gx14_2 rfl) ?_)
  refine pt_d (pt_1 (fun n d => r_aloadn gx14_3 rfl) ?_)
  refine pt_d (pt_getR gx14_4 S tr_41_0 ?_)
  refine pt_d (pt_getI (B := 0) gx14_7 S (fun v2 h2 => ?_))
  refine pt_d (pt_iconst gx14_10 (fun v3 h3 => ?_))
  obtain ⟨pr4, H⟩ := H
  refine pt_d (pt_virt (as := [.int x1, .int x2, .int v2, .int v3]) (r := []) gx14_11 rfl (show zmt[8]? = some zM8 from rfl) rfl rfl rfl rfl (c_8p S z1 z2 h2 h3 pr4) (kqI (fun v4 y4 h_4 h4 P4 => ?_)))
  have S4 := P4.1
  have H := H y4 h_4 P4
  show Pt _ _ _ 14 _ [.int v4] _ _
  refine pt_d (pt_1 (fun n d => r_istoren (L' := [some (.ref 41), some (.int x1), some (.int x2), some (.int v4)]) gx14_14 rfl rfl) ?_)
  refine pt_d (pt_1 (fun n d => r_aloadn gx14_15 rfl) ?_)
  refine pt_d (pt_getR gx14_16 S4 tr_41_8 ?_)
  refine pt_d (pt_1 (fun n d => r_iloadn gx14_19 rfl) ?_)
  refine pt_d (pt_bipush gx14_20 (fun v6 h6 => ?_))
  refine pt_d (pt_imul gx14_22 z1 h6 (fun v7 h7 => ?_))
  refine pt_d (pt_1 (fun n d => r_iloadn gx14_23 rfl) ?_)
  refine pt_d (pt_iadd gx14_24 h7 z2 (fun v8 h8 => ?_))
  refine pt_d (pt_1 (fun n d => r_iloadn gx14_25 rfl) ?_)
  refine pt_d (pt_iast (N' := 1500) gx14_26 S4 tl_46 h8 h4 (fun h_9 S9 p9 q9 e9 => ?_))
  have H := H p9 q9
  refine pt_d (pt_1 (fun n d => r_iloadn gx14_27 rfl) ?_)
  have H := H h_9 S9 (by rw [e9])
  exact pt_d (pt_iret gx14_28 ⟨_, rfl, by rw [h4]; exact H⟩)
theorem ix10 {f y : Int} (hf : 0 ≤ f ∧ f < 150) (hy : 0 ≤ y ∧ y ≤ 9) : w32 (w32 (10 * f) + y) = 10 * f + y := by rw [w32_id (z := 10 * f) (by omega) (by omega), w32_id (by omega) (by omega)]
def R14 (h : aH) (f y v : Int) (h' : aH) : Prop := wS h' ∧ (IV h' ∧ uf (vw h) (vw h')) ∧ v = payF (vw h) f y (vw h 1 0) (-1) ∧ (∀ j, vw h' 46 j = if j = 10 * f + y then v else vw h 46 j) ∧ ∀ j, vw h' 129 j = vw h 129 j
theorem c_14 {n : Nat} {X : aX} {h : aH} {x1 x2 : Int32} {a1 a2 : Int} (S : wS h) (z1 : x1.toInt = a1) (z2 : x2.toInt = a2) (hp : pr8p h a1 a2 (vw h 1 0) (-1)) : Pt n X zM14 0 [some (.ref 41), some (.int x1), some (.int x2), none] [] h (qI (fun v h' => R14 h a1 a2 v h')) := by
  have fb := (PB_l hp.2.1 hp.2.2.1).1
  refine pt_q (pt_and (wk_14 S z1 z2 hp.1) (show Pt n X zM14 0 [some (.ref 41), some (.int x1), some (.int x2), none] [] h (qI (fun v h' => uf (vw h) (vw h') ∧ v = payF (vw h) a1 a2 (vw h 1 0) (-1) ∧ (∀ j, vw h' 46 j = if j = 10 * a1 + a2 then v else vw h 46 j) ∧ ∀ j, vw h' 129 j = vw h 129 j)) from ?_)) ?_
  · refine pt_d (d14_0 S z1 z2 ⟨hp, fun y4 h4 k _ _ h9 S9 e9 => ?_⟩)
    obtain ⟨-, ⟨-, u⟩, ⟨ev, -⟩, fr⟩ := k
    rw [Int.mul_comm a1 10, ix10 fb hp.2.2.2.1] at e9
    refine ⟨fun c j u1 u2 u3 => ?_, ev, fun j => ?_, fun j => ?_⟩
    · rw [e9, up_c (by omega)]
      exact u c j u1 u2 u3
    · rw [e9, up_p, fr 46 j (by decide) (by decide) (by decide) (by decide) (Or.inl (by decide)) (by decide) (Or.inl (by decide))]
    · rw [e9, up_c (by decide)]
      exact fr 129 j (by decide) (by decide) (by decide) (by decide) (Or.inl (by decide)) (by decide) (Or.inl (by decide))
  · rintro v h' ⟨⟨x, rfl, p1, -, p3⟩, ⟨x', ev, p4, p5⟩⟩
    exact ⟨x', ev, p1, ⟨p3, p4⟩, p5⟩

theorem d172_0 {n : Nat} {X : aX} {h : aH} {P : Int → aH → Prop} {x1 x2 : Int32} {a1 a2 : Int} (S : wS h) (z1 : x1.toInt = a1) (z2 : x2.toInt = a2) (H : ((¬ (cFarm (vw h) a1) → P (-1) h) ∧ ((cFarm (vw h) a1) → (((0 ≤ a2 ∧ a2 ≤ (iDiv (vw h 1 0) 365)) → ((pr8p h a1 a2 (vw h 1 0) (-1)) ∧ ∀ (y13 : Int) (h_13 : aH), (R14 h a1 a2 y13 h_13) → P y13 h_13)) ∧ (¬ (0 ≤ a2 ∧ a2 ≤ (iDiv (vw h 1 0) 365)) → P (-1) h))))) : Pt (n + 1) X zM172 0 [some (.ref 0), some (.int x1), some (.int x2)] [] h (qI P) := by
  refine pt_1 (fun n d => r_aloadn gx172_0 rfl) ?_
  refine pt_d (pt_getR gx172_1 S tr_0_0 ?_)
  refine pt_d (pt_1 (fun n d => r_iloadn gx172_4 rfl) ?_)
  refine pt_d (pt_virt (as := [.int x1]) (r := []) gx172_5 rfl (show zmt[75]? = some zM75 from rfl) rfl rfl rfl rfl (c_75 S z1) (kqP (fun v2 h2 => ?_)))
  show Pt _ _ _ 8 _ [.int v2] _ _
  refine pt_d (pt_ifB_eq gx172_8 h2 (fun e3 => ?_) (fun e3 => ?_))
  · have H := H.1 e3
    refine pt_d (pt_iconst gx172_30 (fun v4 h4 => ?_))
    exact pt_d (pt_iret gx172_31 ⟨_, rfl, by rw [h4]; exact H⟩)
  · have H := H.2 e3
    refine pt_d (pt_1 (fun n d => r_iloadn gx172_11 rfl) ?_)
    refine pt_d (pt_iconst gx172_12 (fun v5 h5 => ?_))
    refine pt_d (pt_1 (fun n d => r_aloadn gx172_13 rfl) ?_)
    refine pt_d (pt_getR gx172_14 S tr_0_0 ?_)
    refine pt_d (pt_getI (B := 0) gx172_17 S (fun v7 h7 => ?_))
    refine pt_d (pt_sipush gx172_20 (fun v8 h8 => ?_))
    refine pt_d (pt_idiv gx172_23 h7 h8 (fun v9 h9 => ?_))
    refine pt_d (pt_stat (as := [.int x2, .int v5, .int v9]) (r := []) gx172_24 rfl (show zmt[137]? = some zM137 from rfl) rfl rfl rfl rfl (c_137 S z2 h5 h9) (kqP (fun v10 h10 => ?_)))
    show Pt _ _ _ 27 _ [.int v10] _ _
    refine pt_d (pt_ifB_ne gx172_27 h10 (fun e11 => ?_) (fun e11 => ?_))
    · have H := H.1 e11
      refine pt_d (pt_1 (fun n d => r_aloadn gx172_32 rfl) ?_)
      refine pt_d (pt_getR gx172_33 S tr_0_4 ?_)
      refine pt_d (pt_1 (fun n d => r_iloadn gx172_36 rfl) ?_)
      refine pt_d (pt_1 (fun n d => r_iloadn gx172_37 rfl) ?_)
      obtain ⟨pr13, H⟩ := H
      refine pt_d (pt_virt (as := [.int x1, .int x2]) (r := []) gx172_38 rfl (show zmt[14]? = some zM14 from rfl) rfl rfl rfl rfl (c_14 S z1 z2 pr13) (kqI (fun v13 y13 h_13 h13 P13 => ?_)))
      have S13 := P13.1
      have H := H y13 h_13 P13
      show Pt _ _ _ 41 _ [.int v13] _ _
      exact pt_d (pt_iret gx172_41 ⟨_, rfl, by rw [h13]; exact H⟩)
    · have H := H.2 e11
      refine pt_d (pt_iconst gx172_30 (fun v14 h14 => ?_))
      exact pt_d (pt_iret gx172_31 ⟨_, rfl, by rw [h14]; exact H⟩)
theorem d279_0 {n : Nat} {X : aX} {h : aH} {P : Int → aH → Prop} {x1 x2 : Int32} {a1 a2 : Int} (S : wS h) (z1 : x1.toInt = a1) (z2 : x2.toInt = a2) (H : ((¬ (mFarm (vw h) a1) → P (-1) h) ∧ ((mFarm (vw h) a1) → (((0 ≤ a2 ∧ a2 ≤ (iDiv (vw h 72 1) 365)) → ((pr8p h a1 a2 (vw h 72 1) (-1)) ∧ ∀ (y16 : Int) (h_16 : aH), (RP277 h a1 a2 (vw h 72 1) (-1) y16 h_16) → (0 ≤ w32 ((w32 (10 * a1)) + a2) → w32 ((w32 (10 * a1)) + a2) < 1500 → ∀ h_17 : aH, wS h_17 → vw h_17 = up (vw h_16) 129 (w32 ((w32 (10 * a1)) + a2)) y16 → P y16 h_17))) ∧ (¬ (0 ≤ a2 ∧ a2 ≤ (iDiv (vw h 72 1) 365)) → P (-1) h))))) : Pt (n + 1) X zM279 0 [some (.ref 72), some (.int x1), some (.int x2)] [] h (qI P) := by
  refine pt_1 (fun n d => r_aloadn gx279_0 rfl) ?_
  refine pt_d (pt_1 (fun n d => r_iloadn gx279_1 rfl) ?_)
  refine pt_d (pt_virt (as := [.int x1]) (r := []) gx279_2 rfl (show zmt[202]? = some zM202 from rfl) rfl rfl rfl rfl (c_202 S z1) (kqP (fun v1 h1 => ?_)))
  show Pt _ _ _ 5 _ [.int v1] _ _
  refine pt_d (pt_ifB_eq gx279_5 h1 (fun e2 => ?_) (fun e2 => ?_))
  · have H := H.1 e2
    refine pt_d (pt_iconst gx279_24 (fun v3 h3 => ?_))
    exact pt_d (pt_iret gx279_25 ⟨_, rfl, by rw [h3]; exact H⟩)
  · have H := H.2 e2
    refine pt_d (pt_1 (fun n d => r_iloadn gx279_8 rfl) ?_)
    refine pt_d (pt_iconst gx279_9 (fun v4 h4 => ?_))
    refine pt_d (pt_1 (fun n d => r_aloadn gx279_10 rfl) ?_)
    refine pt_d (pt_getI (B := 1) gx279_11 S (fun v5 h5 => ?_))
    refine pt_d (pt_sipush gx279_14 (fun v6 h6 => ?_))
    refine pt_d (pt_idiv gx279_17 h5 h6 (fun v7 h7 => ?_))
    refine pt_d (pt_stat (as := [.int x2, .int v4, .int v7]) (r := []) gx279_18 rfl (show zmt[196]? = some zM196 from rfl) rfl rfl rfl rfl (c_196 S z2 h4 h7) (kqP (fun v8 h8 => ?_)))
    show Pt _ _ _ 21 _ [.int v8] _ _
    refine pt_d (pt_ifB_ne gx279_21 h8 (fun e9 => ?_) (fun e9 => ?_))
    · have H := H.1 e9
      refine pt_d (pt_1 (fun n d => r_aloadn gx279_26 rfl) ?_)
      refine pt_d (pt_getR gx279_27 S tr_72_76 ?_)
      refine pt_d (pt_bipush gx279_30 (fun v11 h11 => ?_))
      refine pt_d (pt_1 (fun n d => r_iloadn gx279_32 rfl) ?_)
      refine pt_d (pt_imul gx279_33 h11 z1 (fun v12 h12 => ?_))
      refine pt_d (pt_1 (fun n d => r_iloadn gx279_34 rfl) ?_)
      refine pt_d (pt_iadd gx279_35 h12 z2 (fun v13 h13 => ?_))
      refine pt_d (pt_1 (fun n d => r_aloadn gx279_36 rfl) ?_)
      refine pt_d (pt_1 (fun n d => r_iloadn gx279_37 rfl) ?_)
      refine pt_d (pt_1 (fun n d => r_iloadn gx279_38 rfl) ?_)
      refine pt_d (pt_1 (fun n d => r_aloadn gx279_39 rfl) ?_)
      refine pt_d (pt_getI (B := 1) gx279_40 S (fun v14 h14 => ?_))
      refine pt_d (pt_iconst gx279_43 (fun v15 h15 => ?_))
      obtain ⟨pr16, H⟩ := H
      refine pt_d (pt_virt (as := [.int x1, .int x2, .int v14, .int v15]) (r := [.int v13, .ref 129]) gx279_44 rfl (show zmt[277]? = some zM277 from rfl) rfl rfl rfl rfl (c_277p S z1 z2 h14 h15 pr16) (kqI (fun v16 y16 h_16 h16 P16 => ?_)))
      have S16 := P16.1
      have H := H y16 h_16 P16
      show Pt _ _ _ 47 _ [.int v16, .int v13, .ref 129] _ _
      refine pt_d (pt_iast (N' := 1500) gx279_47 S16 tl_129 h13 h16 (fun h_17 S17 p17 q17 e17 => ?_))
      have H := H p17 q17
      refine pt_d (pt_1 (fun n d => r_aloadn gx279_48 rfl) ?_)
      refine pt_d (pt_getR gx279_49 S17 tr_72_76 ?_)
      refine pt_d (pt_bipush gx279_52 (fun v19 h19 => ?_))
      refine pt_d (pt_1 (fun n d => r_iloadn gx279_54 rfl) ?_)
      refine pt_d (pt_imul gx279_55 h19 z1 (fun v20 h20 => ?_))
      refine pt_d (pt_1 (fun n d => r_iloadn gx279_56 rfl) ?_)
      refine pt_d (pt_iadd gx279_57 h20 z2 (fun v21 h21 => ?_))
      refine pt_d (pt_iald (N' := 1500) gx279_58 S17 tl_129 h21 (fun v22 p22 q22 h22 => ?_))
      have h22 : v22.toInt = y16 := by rw [h22, e17, up_s]
      have H := H h_17 S17 (by rw [e17])
      exact pt_d (pt_iret gx279_59 ⟨_, rfl, by rw [h22]; exact H⟩)
    · have H := H.2 e9
      refine pt_d (pt_iconst gx279_24 (fun v23 h23 => ?_))
      exact pt_d (pt_iret gx279_25 ⟨_, rfl, by rw [h23]; exact H⟩)
def okT (V : vS) (f y : Int) : Prop := cFarm V f ∧ 0 ≤ y ∧ y ≤ iDiv (V 1 0) 365
def R172 (V V' : vS) (cl co : Nat) (f y r : Int) (W : vS) : Prop := (¬ okT V f y ∧ r = -1 ∧ W = V') ∨ ((okT V f y ∧ (0 ≤ f ∧ f < 150) ∧ 0 ≤ y ∧ y ≤ 9) ∧ r = payF V f y (V 1 0) (-1) ∧ uf V W ∧ (∀ j, W cl j = if j = 10 * f + y then r else V cl j) ∧ ∀ j, W co j = V co j)
theorem yr_b {V : vS} (d : 0 ≤ V 1 0 ∧ V 1 0 ≤ 3649) : 0 ≤ iDiv (V 1 0) 365 ∧ iDiv (V 1 0) 365 ≤ 9 := by
  rw [iDiv_pos d.1 (by omega) (by decide) (by decide)]
  omega
theorem c_172w {n : Nat} {X : aX} {h : aH} {x1 x2 : Int32} {a1 a2 : Int} (S : wS h) (z1 : x1.toInt = a1) (z2 : x2.toInt = a2) (I : IV h) (B : PB (vw h)) (d : 0 ≤ vw h 1 0 ∧ vw h 1 0 ≤ 3649) : Pt n X zM172 0 [some (.ref 0), some (.int x1), some (.int x2)] [] h (qI (fun r h' => R172 (vw h) (vw h) 46 129 a1 a2 r (vw h') ∧ IV h')) := by
  have yb := yr_b d
  have bad : ¬ okT (vw h) a1 a2 → R172 (vw h) (vw h) 46 129 a1 a2 (-1) (vw h) ∧ IV h := fun z => ⟨Or.inl ⟨z, rfl, rfl⟩, I⟩
  refine pt_d (d172_0 S z1 z2 ⟨fun e => bad (fun z => e z.1), fun e1 => ⟨fun e2 => ⟨⟨I, B, e1, by omega, d, Or.inl rfl⟩, fun y h13 k => ?_⟩, fun e => bad (fun z => e z.2)⟩⟩)
  obtain ⟨-, ⟨I', u⟩, ev, e46, e129⟩ := k
  exact ⟨Or.inr ⟨⟨⟨e1, e2⟩, (PB_l B e1).1, by omega, by omega⟩, ev, u, e46, e129⟩, I'⟩
theorem c_279w {n : Nat} {X : aX} {h : aH} {x1 x2 : Int32} {a1 a2 : Int} (S : wS h) (z1 : x1.toInt = a1) (z2 : x2.toInt = a2) (I : IV h) (B : PB (vw h)) (d : 0 ≤ vw h 1 0 ∧ vw h 1 0 ≤ 3649) (hd : vw h 1 0 = vw h 72 1) : Pt n X zM279 0 [some (.ref 72), some (.int x1), some (.int x2)] [] h (qI (fun r h' => R172 (vw h) (vw h) 129 46 a1 a2 r (vw h') ∧ IV h')) := by
  have Bd := B.1.1.2.1
  have yb := yr_b d
  have bad : ¬ okT (vw h) a1 a2 → R172 (vw h) (vw h) 129 46 a1 a2 (-1) (vw h) := fun z => Or.inl ⟨z, rfl, rfl⟩
  refine pt_q (pt_and (wk_279 S z1 z2 I) (show Pt n X zM279 0 [some (.ref 72), some (.int x1), some (.int x2)] [] h (qI (fun r h' => R172 (vw h) (vw h) 129 46 a1 a2 r (vw h'))) from ?_)) ?_
  · have D := d279_0 (n := n) (X := X) (h := h) (P := fun r h' => R172 (vw h) (vw h) 129 46 a1 a2 r (vw h')) S z1 z2
    rw [← hd] at D
    refine pt_d (D ⟨fun e => bad (fun z => e ((farm_j Bd a1).mp z.1)), fun e1 => ⟨fun e2 => ⟨⟨I, B, (farm_j Bd a1).mpr e1, by omega, d, Or.inl rfl⟩, fun y h16 k _ _ h17 S17 e17 => ?_⟩, fun e => bad (fun z => e z.2)⟩⟩)
    have cf := (farm_j Bd a1).mpr e1
    have fb := (PB_l B cf).1
    obtain ⟨-, ⟨I', u⟩, ⟨ev, -⟩, -, fr⟩ := k
    rw [ix10 fb (by omega)] at e17
    refine Or.inr ⟨⟨⟨cf, e2⟩, fb, by omega, by omega⟩, ev, fun c j u1 u2 u3 => ?_, fun j => ?_, fun j => ?_⟩
    · rw [e17, up_c (by omega)]
      exact u c j u1 u2 u3
    · rw [e17, up_p, fr 129 j (Or.inr (by decide)) (Or.inr (by decide)) (Or.inl (by decide))]
    · rw [e17, up_c (by decide)]
      exact fr 46 j (Or.inl (by decide)) (Or.inl (by decide)) (Or.inl (by decide))
  · rintro v h' ⟨⟨x, rfl, p1, -, p3⟩, ⟨x', ev, p4⟩⟩
    exact ⟨x', ev, p4, p3⟩
theorem R172_B {V : vS} {cl co : Nat} {f y r : Int} {W : vS} (c : R172 V V cl co f y r W) : uf V W := by
  rcases c with ⟨-, -, rfl⟩ | ⟨-, -, u, -⟩
  · exact uf_r _
  · exact u
theorem okT_u {V W : vS} (a : uf V W) (f y : Int) : okT W f y ↔ okT V f y := by
  unfold okT cFarm cBody
  rw [a 1 1 (by decide) (Or.inl (by decide)) (Or.inl (by decide)), a 2 f (by decide) (Or.inl (by decide)) (Or.inl (by decide)), a 1 0 (by decide) (Or.inl (by decide)) (Or.inl (by decide))]
theorem jx_28 {h h1 h2 : aH} {f y r1 r2 : Int} (J : JSet (vw h)) (c : R172 (vw h) (vw h) 46 129 f y r1 (vw h1) ∧ IV h1) (k : R172 (vw h1) (vw h1) 129 46 f y r2 (vw h2) ∧ IV h2) : (JSea (vw h2) ∧ JRk (vw h2) ∧ JSet (vw h2)) ∧ r1 = r2 := by
  rcases c.1 with ⟨n, rfl, e⟩ | ⟨o, rfl, u, c1, c2⟩
  · rw [e] at k
    rcases k.1 with ⟨-, rfl, e2⟩ | ⟨o, -⟩
    · refine ⟨⟨JSea_IV k.2, rOK_IV k.2, ?_⟩, rfl⟩
      rw [e2]
      exact J
    · exact absurd o.1 n
  · rcases k.1 with ⟨n, -⟩ | ⟨-, rfl, -, k1, k2⟩
    · exact absurd ((okT_u u _ _).mpr o.1) n
    · have e10 : vw h1 1 0 = vw h 1 0 := u 1 0 (by decide) (Or.inl (by decide)) (Or.inl (by decide))
      have ep : payF (vw h1) f y (vw h1 1 0) (-1) = payF (vw h) f y (vw h 1 0) (-1) := by rw [e10, payF_u u]
      rw [ep] at k1 ⊢
      refine ⟨⟨JSea_IV k.2, rOK_IV k.2, fun j a b => ?_⟩, rfl⟩
      rw [k1, k2, c1, c2]
      by_cases z : j = 10 * f + y
      · rw [if_pos z, if_pos z]
        exact ⟨rfl, payF_b _ _ _ _ _⟩
      · rw [if_neg z, if_neg z]
        exact J j a b


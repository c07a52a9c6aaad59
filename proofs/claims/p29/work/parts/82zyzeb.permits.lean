-- ===== the permits by value =====
theorem nQ_sgm (P : Int → Prop) : ∀ n : Nat, nQ P n = sgm (fun j => pI (P j) 1) n
  | 0 => rfl
  | n + 1 => by
    rw [sgm_s, ← nQ_sgm P n]
    by_cases z : P (n : Nat)
    · rw [nQ_t z, pI_t z]
    · rw [nQ_f z, pI_f z]
theorem per_sum {V : vS} (J : JPer V) (b1 : 0 ≤ V 1 1) (G : Int → Prop) : nQ (fun i => G (V 6 i)) (V 1 4).toNat = nQ (fun b => V 2 b = 6 ∧ G b) (V 1 1).toNat := by
  obtain ⟨j0, j1, j2, j3⟩ := J
  have inj : ∀ i i', 0 ≤ i → i < V 1 4 → 0 ≤ i' → i' < V 1 4 → V 6 i = V 6 i' → i = i' := fun i i' a b a' b' e => by
    rcases Int.lt_trichotomy i i' with z | z | z
    · have := j2 i i' a z b'
      rw [e] at this
      omega
    · exact z
    · have := j2 i' i a' z b
      rw [e] at this
      omega
  rw [nQ_sgm, nQ_sgm]
  have e1 : sgm (fun i => pI (G (V 6 i)) 1) (V 1 4).toNat = sgm (fun i => sgm (fun b => pI (b = V 6 i) (pI (G b) 1)) (V 1 1).toNat) (V 1 4).toNat := sgm_c _ (fun i a b => by
    have r := (j1 i a (by omega)).1
    rw [sgm_one (fun b => pI (G b) 1), pI_t (p := 0 ≤ V 6 i ∧ V 6 i < ((V 1 1).toNat : Int)) ⟨r.1, by omega⟩])
  rw [e1, sgm_swap]
  refine sgm_c _ (fun b c0 c1 => ?_)
  by_cases z : V 2 b = 6
  · obtain ⟨i0, hi, e⟩ := j3 b c0 (by omega) z
    rw [sgm_c (g := fun i => pI (i = i0) (pI (G b) 1)) (V 1 4).toNat (fun i a c => pI_c ⟨fun w => inj i i0 a (by omega) hi.1 hi.2 (w.symm.trans e.symm), fun w => by rw [w, e]⟩ (fun _ => rfl)), sgm_one (fun _ => pI (G b) 1), pI_t ⟨hi.1, by omega⟩]
    exact pI_c ⟨fun w => ⟨z, w⟩, fun w => w.2⟩ (fun _ => rfl)
  · rw [pI_f (p := V 2 b = 6 ∧ G b) (fun w => z w.1), sgm_c (g := fun _ => 0) (V 1 4).toNat (fun i a c => pI_f (fun w => z (by
      have := (j1 i a (by omega)).2
      rw [← w] at this
      exact this))), sgm_z]
theorem ldY_e (y : Int) : ldY y = ldM y := by
  unfold ldY ldM
  rw [Int.mul_comm y 365]
theorem per_e {V : vS} (J : JPer V) (B : JBody V) (H : JHand V) (f y t : Int) : nQ (fun i => cHold V (V 6 i) (ldY y) t = f) (V 1 4).toNat = nQ (fun b => V 73 b = 6 ∧ mHold V b (ldM y) t = f) (V 72 2).toNat := by
  rw [per_sum J B.2.2.2.2.2.1 (fun b => cHold V b (ldY y) t = f), ← B.1]
  exact nQ_c _ (fun b _ _ => by rw [B.2.1, hold_j H B.2.2.2.2.1, ldY_e])
theorem prv_e {V : vS} (J : JMaj V) {f y t : Int} (hf : 0 ≤ f ∧ f < 150) (hy : 0 ≤ y ∧ y ≤ 9) (ht : 0 ≤ t ∧ t ≤ 3649) (r : ∀ j, 0 ≤ j → j < 1500 → V 111 j ≤ 2147483647) : cPrv V f y t ↔ mPrv V f y t := by
  unfold cPrv mPrv
  rw [Int.mul_comm f 10, w32_id (z := 10 * f) (by omega) (by omega), w32_id (z := 10 * f + y) (by omega) (by omega), (J _).1]
  have a := (J (10 * f + y)).2
  rw [(J _).1] at a
  have b := r (10 * f + y) (by omega) (by omega)
  rw [w32_id (z := t + 1) (by omega) (by omega), w32_id (z := V 111 (10 * f + y) - 1) (by omega) (by omega)]
  omega
-- the class's names
theorem nms_c {h h' : aH} {f y t : Int} (I : IV h) (A : AP (vw h)) (JP : JPer (vw h)) (H : JHand (vw h)) (Mj : JMaj (vw h)) (hf : 0 ≤ f ∧ f < 150) (hy : 0 ≤ y ∧ y ≤ 9) (ht : 0 ≤ t ∧ t ≤ 3649) (r111 : ∀ j, 0 ≤ j → j < 1500 → vw h 111 j ≤ 2147483647) (R : R2 h f y t h') : NMS (vw h) f y t (fun j => vw h' 43 j) := by
  obtain ⟨-, q, h1, h4, r, R1', R3', -, N12, E12⟩ := R
  have fg := R1_f R1'
  have fk : ∀ (c : Nat) j, c < 33 ∨ 72 ≤ c ∧ c ≤ 111 → vw h1 c j = vw h c j := fun c j z => fg c j (by omega) (by omega)
  have M : agM (vw h) (vw h1) := agM_of (fun c j u v => fk c j (Or.inr ⟨u, v⟩))
  have A1 := AP_f A fg
  have Sc := R1_sc I R1'
  have hq : 146 ≤ q := R1'.1.1
  obtain ⟨t5, t6, b5, b6⟩ := tot_e A1 Sc hf
  have lt := lasN_x (P := fun c => LkM (vw h1) t y c ∧ vw h1 87 c = f) (N := vw h1 72 19) (by rw [← A1.1.1.1]; exact A1.1.1.2.2.2.2.2.1) (lat_e A1 Sc hf)
  refine NMS_k (V := vw h1) (fun c j z => (fk c j z).symm) ?_
  have b := k_b A1 t y f
  obtain ⟨f4, c44, hr⟩ := R3'
  have B1 := A1.1.2.1
  have s5 : vw h1 (q + 5) f = kS (vw h1) t y f := t5
  have s6 : vw h4 (q + 6) f = kM (vw h1) t y f := (f4 (q + 6) f (by omega)).trans t6
  have s7 : vw h4 (q + 7) f = kL (vw h1) t y f := (f4 (q + 7) f (by omega)).trans lt
  have hr : r = kG (vw h1) t y f := by rw [hr, mdS_e A1 Sc, w32_id (by omega) (by omega)]
  have cc : ∀ j, 0 ≤ j → j < 8 → vw h4 44 j = kC (vw h1) t y f j := fun j a c => by
    have := b.2.2.1 j
    rw [c44 j a c, crS_e A1 Sc, w32_id (by omega) (by omega)]
  have mx := mxN_b (g := fun j => kC (vw h1) t y f j) (B := 172800) (by decide) 8 (fun j => b.2.2.1 j)
  have mt : mxN (fun j => vw h4 44 j) 8 = mxN (fun j => kC (vw h1) t y f j) 8 := mxN_c 8 (fun j a c => cc j a c)
  refine ⟨⟨?_, ?_, ?_, ?_⟩, ⟨?_, ?_, ?_⟩, ⟨?_, ?_, ?_⟩, ?_, ?_, ?_⟩
  · show vw h' 43 0 = _
    rw [N12 0 (by decide) (by decide), nT_0]
  · show vw h' 43 1 = _
    rw [N12 1 (by decide) (by decide), nT_1, f4 2 _ (by decide)]
  · show vw h' 43 2 = _
    rw [N12 2 (by decide) (by decide), nT_2, s5]
  · show vw h' 43 3 = _
    rw [N12 3 (by decide) (by decide), nT_3, s5, s6, w32_id (by omega) (by omega)]
  · show vw h' 43 4 = _
    rw [N12 4 (by decide) (by decide), nT_4, s5, hr, w32_id (by omega) (by omega)]
  · show vw h' 43 5 = _
    rw [N12 5 (by decide) (by decide), nT_5]
    exact nQ_c 8 (fun j a c => by rw [cc j a c])
  · show vw h' 43 6 = _
    rw [N12 6 (by decide) (by decide), nT_6, s5, mt, w32_id (by omega) (by omega)]
  · show vw h' 43 7 = _
    rw [N12 7 (by decide) (by decide), nT_7, s7]
    rcases lasN_i (P := fun c => LkM (vw h1) t y c ∧ vw h1 87 c = f) (vw h1 72 19).toNat with ⟨i1, -⟩ | ⟨i1, i2, -⟩
    · have e : kL (vw h1) t y f = -1 := i1
      rw [if_pos e, if_pos (by omega)]
    · have e : 0 ≤ kL (vw h1) t y f ∧ kL (vw h1) t y f < ((vw h1 72 19).toNat : Int) := i1
      rw [if_neg (by omega), if_neg (by omega), lt1_k (V := vw h1) (fun c j u => f4 c j (by omega))]
      exact A1.2.2.2.2 _ e.1 (by rw [A1.1.1.1]; omega)
  · show vw h' 43 8 = _
    rw [N12 8 (by decide) (by decide), nT_8]
    unfold cErr kEr
    rw [s6, f4 (q + 5) f (by omega), s5, w32_id (z := kS (vw h1) t y f - kM (vw h1) t y f) (by omega) (by omega), w32_id (z := 100 * kM (vw h1) t y f) (by omega) (by omega)]
  · show vw h' 43 9 = _
    rw [N12 9 (by decide) (by decide), nT_9, f4 1 4 (by decide)]
    refine Eq.trans (nQ_c _ (fun i _ _ => ?_)) (per_e (V := vw h1) (JPer_ag JP (ag_k fk _ (by decide))) B1 (JHand_ag H (ag_k fk _ (by decide))) f y t)
    rw [f4 6 i (by decide), cHold_f (V := vw h1) (fun c j u => f4 c j (by omega))]
  · show vw h' 43 10 = _
    rw [N12 10 (by decide) (by decide), nT_10]
  · show vw h' 43 11 = _
    rw [N12 11 (by decide) (by decide), nT_11]
    refine bI_c (Iff.trans ?_ (prv_e (V := vw h1) (fun j => ?_) hf hy ht (fun j u v => ?_)))
    · unfold cPrv
      rw [f4 32 _ (by decide)]
    · rw [fk 32 j (Or.inl (by decide)), fk 111 j (Or.inr (by decide))]
      exact Mj j
    · rw [fk 111 j (Or.inr (by decide))]
      exact r111 j u v
  · show vw h' 43 12 = _
    rw [E12]
    exact nQ_c _ (fun y' _ _ => by rw [kM_k M])

theorem d170_0 {n : Nat} {X : aX} {h : aH} {P : Int → aH → Prop} {x1 x2 x3 x4 : Int32} {a1 a2 a3 a4 : Int} (S : wS h) (z1 : x1.toInt = a1) (z2 : x2.toInt = a2) (z3 : x3.toInt = a3) (z4 : x4.toInt = a4) (H : ((¬ (cFarm (vw h) a1) → P (-1) h) ∧ ((cFarm (vw h) a1) → ((¬ (0 ≤ a2 ∧ a2 ≤ 9) → P (-1) h) ∧ ((0 ≤ a2 ∧ a2 ≤ 9) → ((¬ (0 ≤ a3 ∧ a3 ≤ 3649) → P (-1) h) ∧ ((0 ≤ a3 ∧ a3 ≤ 3649) → (((0 ≤ a4 ∧ a4 ≤ 12) → (((IV h ∧ AP (vw h)) ∧ (0 ≤ a1 ∧ a1 < 150) ∧ (0 ≤ a2 ∧ a2 ≤ 9) ∧ vw h 1 6 ≤ 200 ∧ vw h 1 4 ≤ 150) ∧ ∀ (h_16 : aH), (wS h_16 ∧ R2 h a1 a2 a3 h_16) → (0 ≤ a4 → a4 < 13 → P (vw h_16 43 a4) h_16))) ∧ (¬ (0 ≤ a4 ∧ a4 ≤ 12) → P (-1) h))))))))) : Pt (n + 1) X zM170 0 [some (.ref 0), some (.int x1), some (.int x2), some (.int x3), some (.int x4)] [] h (qI P) := by
  refine pt_1 (fun n d => r_aloadn gx170_0 rfl) ?_
  refine pt_d (pt_getR gx170_1 S tr_0_0 ?_)
  refine pt_d (pt_1 (fun n d => r_iloadn gx170_4 rfl) ?_)
  refine pt_d (pt_virt (as := [.int x1]) (r := []) gx170_5 rfl (show zmt[75]? = some zM75 from rfl) rfl rfl rfl rfl (c_75 S z1) (kqP (fun v2 h2 => ?_)))
  show Pt _ _ _ 8 _ [.int v2] _ _
  refine pt_d (pt_ifB_eq gx170_8 h2 (fun e3 => ?_) (fun e3 => ?_))
  · have H := H.1 e3
    refine pt_d (pt_iconst gx170_36 (fun v4 h4 => ?_))
    exact pt_d (pt_iret gx170_37 ⟨_, rfl, by rw [h4]; exact H⟩)
  · have H := H.2 e3
    refine pt_d (pt_1 (fun n d => r_iloadn gx170_11 rfl) ?_)
    refine pt_d (pt_stat (as := [.int x2]) (r := []) gx170_12 rfl (show zmt[139]? = some zM139 from rfl) rfl rfl rfl rfl (c_139 S z2) (kqP (fun v5 h5 => ?_)))
    show Pt _ _ _ 15 _ [.int v5] _ _
    refine pt_d (pt_ifB_eq gx170_15 h5 (fun e6 => ?_) (fun e6 => ?_))
    · have H := H.1 e6
      refine pt_d (pt_iconst gx170_36 (fun v7 h7 => ?_))
      exact pt_d (pt_iret gx170_37 ⟨_, rfl, by rw [h7]; exact H⟩)
    · have H := H.2 e6
      refine pt_d (pt_1 (fun n d => r_iloadn gx170_18 rfl) ?_)
      refine pt_d (pt_stat (as := [.int x3]) (r := []) gx170_19 rfl (show zmt[138]? = some zM138 from rfl) rfl rfl rfl rfl (c_138 S z3) (kqP (fun v8 h8 => ?_)))
      show Pt _ _ _ 22 _ [.int v8] _ _
      refine pt_d (pt_ifB_eq gx170_22 h8 (fun e9 => ?_) (fun e9 => ?_))
      · have H := H.1 e9
        refine pt_d (pt_iconst gx170_36 (fun v10 h10 => ?_))
        exact pt_d (pt_iret gx170_37 ⟨_, rfl, by rw [h10]; exact H⟩)
      · have H := H.2 e9
        refine pt_d (pt_1 (fun n d => r_iload gx170_25 rfl) ?_)
        refine pt_d (pt_iconst gx170_27 (fun v11 h11 => ?_))
        refine pt_d (pt_bipush gx170_28 (fun v12 h12 => ?_))
        refine pt_d (pt_stat (as := [.int x4, .int v11, .int v12]) (r := []) gx170_30 rfl (show zmt[137]? = some zM137 from rfl) rfl rfl rfl rfl (c_137 S z4 h11 h12) (kqP (fun v13 h13 => ?_)))
        show Pt _ _ _ 33 _ [.int v13] _ _
        refine pt_d (pt_ifB_ne gx170_33 h13 (fun e14 => ?_) (fun e14 => ?_))
        · have H := H.1 e14
          refine pt_d (pt_1 (fun n d => r_aloadn gx170_38 rfl) ?_)
          refine pt_d (pt_getR gx170_39 S tr_0_4 ?_)
          refine pt_d (pt_1 (fun n d => r_iloadn gx170_42 rfl) ?_)
          refine pt_d (pt_1 (fun n d => r_iloadn gx170_43 rfl) ?_)
          refine pt_d (pt_1 (fun n d => r_iloadn gx170_44 rfl) ?_)
          obtain ⟨pr16, H⟩ := H
          refine pt_d (pt_virt (as := [.int x1, .int x2, .int x3]) (r := []) gx170_45 rfl (show zmt[2]? = some zM2 from rfl) rfl rfl rfl rfl (c_2 S z1 z2 z3 pr16) (kqN (fun h_16 P16 => ?_)))
          have S16 := P16.1
          have H := H h_16 P16
          show Pt _ _ _ 48 _ [] _ _
          refine pt_d (pt_1 (fun n d => r_aloadn gx170_48 rfl) ?_)
          refine pt_d (pt_getR gx170_49 S16 tr_0_4 ?_)
          refine pt_d (pt_getR gx170_52 S16 tr_41_4 ?_)
          refine pt_d (pt_1 (fun n d => r_iload gx170_55 rfl) ?_)
          refine pt_d (pt_iald (N' := 13) gx170_57 S16 tl_43 z4 (fun v19 p19 q19 h19 => ?_))
          have H := H p19 q19
          exact pt_d (pt_iret gx170_58 ⟨_, rfl, by rw [h19]; exact H⟩)
        · have H := H.2 e14
          refine pt_d (pt_iconst gx170_36 (fun v20 h20 => ?_))
          exact pt_d (pt_iret gx170_37 ⟨_, rfl, by rw [h20]; exact H⟩)
theorem d274_0 {n : Nat} {X : aX} {h : aH} {P : Int → aH → Prop} {x1 x2 x3 x4 : Int32} {a1 a2 a3 a4 : Int} (S : wS h) (z1 : x1.toInt = a1) (z2 : x2.toInt = a2) (z3 : x3.toInt = a3) (z4 : x4.toInt = a4) (H : ((¬ (mFarm (vw h) a1) → P (-1) h) ∧ ((mFarm (vw h) a1) → ((¬ (0 ≤ a2 ∧ a2 ≤ 9) → P (-1) h) ∧ ((0 ≤ a2 ∧ a2 ≤ 9) → ((¬ (0 ≤ a3 ∧ a3 ≤ 3649) → P (-1) h) ∧ ((0 ≤ a3 ∧ a3 ≤ 3649) → (((0 ≤ a4 ∧ a4 ≤ 12) → ((q239 (vw h) ∧ (0 ≤ vw h 72 2 ∧ vw h 72 2 ≤ 150) ∧ vw h 72 14 ≤ 200 ∧ 0 ≤ a2 ∧ a2 ≤ 9) ∧ ∀ (h_14 : aH), (wS h_14 ∧ R272 (vw h) a1 a2 a3 (vw h_14)) → (0 ≤ a4 → a4 < 13 → P (vw h_14 124 a4) h_14))) ∧ (¬ (0 ≤ a4 ∧ a4 ≤ 12) → P (-1) h))))))))) : Pt (n + 1) X zM274 0 [some (.ref 72), some (.int x1), some (.int x2), some (.int x3), some (.int x4)] [] h (qI P) := by
  refine pt_1 (fun n d => r_aloadn gx274_0 rfl) ?_
  refine pt_d (pt_1 (fun n d => r_iloadn gx274_1 rfl) ?_)
  refine pt_d (pt_virt (as := [.int x1]) (r := []) gx274_2 rfl (show zmt[202]? = some zM202 from rfl) rfl rfl rfl rfl (c_202 S z1) (kqP (fun v1 h1 => ?_)))
  show Pt _ _ _ 5 _ [.int v1] _ _
  refine pt_d (pt_ifB_eq gx274_5 h1 (fun e2 => ?_) (fun e2 => ?_))
  · have H := H.1 e2
    refine pt_d (pt_iconst gx274_33 (fun v3 h3 => ?_))
    exact pt_d (pt_iret gx274_34 ⟨_, rfl, by rw [h3]; exact H⟩)
  · have H := H.2 e2
    refine pt_d (pt_1 (fun n d => r_iloadn gx274_8 rfl) ?_)
    refine pt_d (pt_stat (as := [.int x2]) (r := []) gx274_9 rfl (show zmt[198]? = some zM198 from rfl) rfl rfl rfl rfl (c_198 S z2) (kqP (fun v4 h4 => ?_)))
    show Pt _ _ _ 12 _ [.int v4] _ _
    refine pt_d (pt_ifB_eq gx274_12 h4 (fun e5 => ?_) (fun e5 => ?_))
    · have H := H.1 e5
      refine pt_d (pt_iconst gx274_33 (fun v6 h6 => ?_))
      exact pt_d (pt_iret gx274_34 ⟨_, rfl, by rw [h6]; exact H⟩)
    · have H := H.2 e5
      refine pt_d (pt_1 (fun n d => r_iloadn gx274_15 rfl) ?_)
      refine pt_d (pt_stat (as := [.int x3]) (r := []) gx274_16 rfl (show zmt[197]? = some zM197 from rfl) rfl rfl rfl rfl (c_197 S z3) (kqP (fun v7 h7 => ?_)))
      show Pt _ _ _ 19 _ [.int v7] _ _
      refine pt_d (pt_ifB_eq gx274_19 h7 (fun e8 => ?_) (fun e8 => ?_))
      · have H := H.1 e8
        refine pt_d (pt_iconst gx274_33 (fun v9 h9 => ?_))
        exact pt_d (pt_iret gx274_34 ⟨_, rfl, by rw [h9]; exact H⟩)
      · have H := H.2 e8
        refine pt_d (pt_1 (fun n d => r_iload gx274_22 rfl) ?_)
        refine pt_d (pt_iconst gx274_24 (fun v10 h10 => ?_))
        refine pt_d (pt_bipush gx274_25 (fun v11 h11 => ?_))
        refine pt_d (pt_stat (as := [.int x4, .int v10, .int v11]) (r := []) gx274_27 rfl (show zmt[196]? = some zM196 from rfl) rfl rfl rfl rfl (c_196 S z4 h10 h11) (kqP (fun v12 h12 => ?_)))
        show Pt _ _ _ 30 _ [.int v12] _ _
        refine pt_d (pt_ifB_ne gx274_30 h12 (fun e13 => ?_) (fun e13 => ?_))
        · have H := H.1 e13
          refine pt_d (pt_1 (fun n d => r_aloadn gx274_35 rfl) ?_)
          refine pt_d (pt_1 (fun n d => r_iloadn gx274_36 rfl) ?_)
          refine pt_d (pt_1 (fun n d => r_iloadn gx274_37 rfl) ?_)
          refine pt_d (pt_1 (fun n d => r_iloadn gx274_38 rfl) ?_)
          obtain ⟨pr14, H⟩ := H
          refine pt_d (pt_virt (as := [.int x1, .int x2, .int x3]) (r := []) gx274_39 rfl (show zmt[272]? = some zM272 from rfl) rfl rfl rfl rfl (c_272 S z1 z2 z3 pr14) (kqN (fun h_14 P14 => ?_)))
          have S14 := P14.1
          have H := H h_14 P14
          show Pt _ _ _ 42 _ [] _ _
          refine pt_d (pt_1 (fun n d => r_aloadn gx274_42 rfl) ?_)
          refine pt_d (pt_getR gx274_43 S14 tr_72_69 ?_)
          refine pt_d (pt_1 (fun n d => r_iload gx274_46 rfl) ?_)
          refine pt_d (pt_iald (N' := 13) gx274_48 S14 tl_124 z4 (fun v16 p16 q16 h16 => ?_))
          have H := H p16 q16
          exact pt_d (pt_iret gx274_49 ⟨_, rfl, by rw [h16]; exact H⟩)
        · have H := H.2 e13
          refine pt_d (pt_iconst gx274_33 (fun v17 h17 => ?_))
          exact pt_d (pt_iret gx274_34 ⟨_, rfl, by rw [h17]; exact H⟩)
def okN (V : vS) (f y t m : Int) : Prop := cFarm V f ∧ (0 ≤ y ∧ y ≤ 9) ∧ (0 ≤ t ∧ t ≤ 3649) ∧ 0 ≤ m ∧ m ≤ 12
def oMN (V : vS) (f y t m : Int) : Prop := mFarm V f ∧ (0 ≤ y ∧ y ≤ 9) ∧ (0 ≤ t ∧ t ≤ 3649) ∧ 0 ≤ m ∧ m ≤ 12
def R170 (h : aH) (f y t m r : Int) (h' : aH) : Prop := (¬ okN (vw h) f y t m ∧ r = -1 ∧ h' = h) ∨ (okN (vw h) f y t m ∧ R2 h f y t h' ∧ r = vw h' 43 m)
def R274 (V : vS) (f y t m r : Int) (W : vS) : Prop := (¬ oMN V f y t m ∧ r = -1 ∧ W = V) ∨ (oMN V f y t m ∧ R272 V f y t W ∧ r = W 124 m)
theorem cF_b {V : vS} (b : V 1 1 ≤ 150) {f : Int} (h : cFarm V f) (b0 : 0 ≤ V 1 1) : 0 ≤ f ∧ f < 150 := by
  have h := h.1
  unfold cBody at h
  rw [w32_id (by omega) (by omega)] at h
  omega
theorem c_170w {n : Nat} {X : aX} {h : aH} {x1 x2 x3 x4 : Int32} {a1 a2 a3 a4 : Int} (S : wS h) (z1 : x1.toInt = a1) (z2 : x2.toInt = a2) (z3 : x3.toInt = a3) (z4 : x4.toInt = a4) (I : IV h) (A : AP (vw h)) (b6 : vw h 1 6 ≤ 200) (b4 : vw h 1 4 ≤ 150) : Pt n X zM170 0 [some (.ref 0), some (.int x1), some (.int x2), some (.int x3), some (.int x4)] [] h (qI (fun r h' => R170 h a1 a2 a3 a4 r h' ∧ IV h')) := by
  have bad : ¬ okN (vw h) a1 a2 a3 a4 → R170 h a1 a2 a3 a4 (-1) h := fun z => Or.inl ⟨z, rfl, rfl⟩
  have c : Pt n X zM170 0 [some (.ref 0), some (.int x1), some (.int x2), some (.int x3), some (.int x4)] [] h (qI (fun r h' => R170 h a1 a2 a3 a4 r h')) :=
    pt_d (d170_0 S z1 z2 z3 z4 ⟨fun e => bad (fun z => e z.1), fun e1 => ⟨fun e => bad (fun z => e z.2.1), fun e2 => ⟨fun e => bad (fun z => e z.2.2.1), fun e3 => ⟨fun e4 => ⟨⟨⟨I, A⟩, cF_b I.1.1.1.2 e1 I.1.1.1.1, e2, b6, b4⟩, fun g R _ _ => Or.inr ⟨⟨e1, e2, e3, e4⟩, R.2, rfl⟩⟩, fun e => bad (fun z => e z.2.2.2)⟩⟩⟩⟩)
  refine pt_q (pt_and c (wk_170 S z1 z2 z3 z4 I)) ?_
  rintro v h' ⟨⟨x, ev, r⟩, ⟨x', -, -, -, I'⟩⟩
  exact ⟨x, ev, r, I'⟩
theorem c_274w {n : Nat} {X : aX} {h : aH} {x1 x2 x3 x4 : Int32} {a1 a2 a3 a4 : Int} (S : wS h) (z1 : x1.toInt = a1) (z2 : x2.toInt = a2) (z3 : x3.toInt = a3) (z4 : x4.toInt = a4) (I : IV h) : Pt n X zM274 0 [some (.ref 72), some (.int x1), some (.int x2), some (.int x3), some (.int x4)] [] h (qI (fun r h' => ((0 ≤ vw h 72 2 ∧ vw h 72 2 ≤ 150) ∧ vw h 72 14 ≤ 200 → R274 (vw h) a1 a2 a3 a4 r (vw h')) ∧ IV h')) := by
  have bad : ¬ oMN (vw h) a1 a2 a3 a4 → R274 (vw h) a1 a2 a3 a4 (-1) (vw h) := fun z => Or.inl ⟨z, rfl, rfl⟩
  have c : (0 ≤ vw h 72 2 ∧ vw h 72 2 ≤ 150) ∧ vw h 72 14 ≤ 200 → Pt n X zM274 0 [some (.ref 72), some (.int x1), some (.int x2), some (.int x3), some (.int x4)] [] h (qI (fun r h' => R274 (vw h) a1 a2 a3 a4 r (vw h'))) := fun hh =>
    pt_d (d274_0 S z1 z2 z3 z4 ⟨fun e => bad (fun z => e z.1), fun e1 => ⟨fun e => bad (fun z => e z.2.1), fun e2 => ⟨fun e => bad (fun z => e z.2.2.1), fun e3 => ⟨fun e4 => ⟨⟨I.2.2.2, hh.1, hh.2, e2⟩, fun g R _ _ => Or.inr ⟨⟨e1, e2, e3, e4⟩, R.2, rfl⟩⟩, fun e => bad (fun z => e z.2.2.2)⟩⟩⟩⟩)
  by_cases hh : (0 ≤ vw h 72 2 ∧ vw h 72 2 ≤ 150) ∧ vw h 72 14 ≤ 200
  · refine pt_q (pt_and (c hh) (wk_274 S z1 z2 z3 z4 I)) ?_
    rintro v h' ⟨⟨x, ev, r⟩, ⟨x', -, -, -, I'⟩⟩
    exact ⟨x, ev, fun _ => r, I'⟩
  · refine pt_q (wk_274 S z1 z2 z3 z4 I) ?_
    rintro v h' ⟨x', ev, -, -, I'⟩
    exact ⟨x', ev, fun z => absurd z hh, I'⟩
theorem jx_26 {h h1 h2 : aH} {f y t nm r1 r2 : Int} (I0 : IV h) (A : AP (vw h)) (JP : JPer (vw h)) (H : JHand (vw h)) (Mj : JMaj (vw h)) (r111 : ∀ j, 0 ≤ j → j < 1500 → vw h 111 j ≤ 2147483647) (c : R170 h f y t nm r1 h1 ∧ IV h1) (m : ((0 ≤ vw h1 72 2 ∧ vw h1 72 2 ≤ 150) ∧ vw h1 72 14 ≤ 200 → R274 (vw h1) f y t nm r2 (vw h2)) ∧ IV h2) : (JSea (vw h2) ∧ JRk (vw h2)) ∧ r1 = r2 := by
  refine ⟨⟨JSea_IV m.2, rOK_IV m.2⟩, ?_⟩
  have fr : ∀ (c : Nat) j, c < 146 → c ≠ 42 → c ≠ 43 → c ≠ 44 → vw h1 c j = vw h c j := by
    rcases c.1 with ⟨-, -, rfl⟩ | ⟨-, ⟨-, q, g1, g4, r, -, -, F, -⟩, -⟩
    · exact fun _ _ _ _ _ _ => rfl
    · exact F
  have B := A.1.2.1
  have b1 := B.2.2.2.2.2.1
  have b2 := B.2.2.2.2.2.2.1
  have n2 : vw h1 72 2 = vw h 1 1 := by rw [fr 72 2 (by decide) (by decide) (by decide) (by decide)]; exact B.1.symm
  have n14 : vw h1 72 14 = vw h 1 6 := by rw [fr 72 14 (by decide) (by decide) (by decide) (by decide)]; exact H.1.symm
  have M := m.1 ⟨by rw [n2]; exact ⟨b1, b2⟩, by rw [n14]; have := H.2.2.2.2.2.2.1; omega⟩
  have ok : okN (vw h) f y t nm ↔ oMN (vw h1) f y t nm := by
    unfold okN oMN
    rw [farm_j B]
    unfold mFarm mBody
    rw [fr 72 2 (by decide) (by decide) (by decide) (by decide), fr 73 f (by decide) (by decide) (by decide) (by decide)]
  rcases c.1 with ⟨n, rfl, -⟩ | ⟨o, R, e1⟩
  · rcases M with ⟨-, rfl, -⟩ | ⟨o', -⟩
    · rfl
    · exact absurd (ok.mpr o') n
  · rcases M with ⟨n, -⟩ | ⟨-, ⟨G, RR, FF'⟩, e2⟩
    · exact absurd (ok.mp o) n
    · have a := nms_c I0 A JP H Mj (cF_b b2 o.1 b1) o.2.1 o.2.2.1 r111 R
      have x : ∀ (c : Nat) j, 72 ≤ c → c ≤ 110 → vw h1 c j = vw h c j := fun c j u v => fr c j (by omega) (by omega) (by omega) (by omega)
      have RD := rkd_m x RR
      have AR := RR.1.1
      have b := nms_m (W := vw h2) A RD o.2.1 (fun c j u v => (agR_x AR c j v (by omega)).trans (x c j (by omega) (by omega))) ((agR_y AR (by decide) (by decide)).trans (x 72 2 (by decide) (by decide))) ((agR_y AR (by decide) (by decide)).trans (x 72 14 (by decide) (by decide))) (fun j => (AR 111 j (Or.inr (by decide)) (Or.inl (by decide))).trans (fr 111 j (by decide) (by decide) (by decide) (by decide))) FF'
      rw [e1, e2]
      exact NMS_e a b nm o.2.2.2.1 o.2.2.2.2


-- ===== settled, back =====
theorem d15_0 {n : Nat} {X : aX} {h : aH} {P : Int → aH → Prop} {x1 : Int32} {a1 : Int} (S : wS h) (z1 : x1.toInt = a1) (H : (∀ (w2 : Int64) (w4 : Int32) (w5 : Int32), w2.toInt = 0 → w4.toInt = iDiv (vw h 1 0) 365 → w5.toInt = 0 → Pt n X zM15 18 [some (.ref 41), some (.int x1), some (.long w2), none, some (.int w4), some (.int w5)] [] h (qI P))) : Pt (n + 1) X zM15 0 [some (.ref 41), some (.int x1), none, none, none, none] [] h (qI P) := by
  refine pt_lconst (c := 0) gx15_0 rfl (fun v1 h1 => ?_)
  refine pt_d (pt_1 (fun n d => r_lstoren (L' := [some (.ref 41), some (.int x1), some (.long v1), none, none, none]) gx15_1 rfl rfl) ?_)
  refine pt_d (pt_1 (fun n d => r_aloadn gx15_2 rfl) ?_)
  refine pt_d (pt_getR gx15_3 S tr_41_0 ?_)
  refine pt_d (pt_getI (B := 0) gx15_6 S (fun v3 h3 => ?_))
  refine pt_d (pt_sipush gx15_9 (fun v4 h4 => ?_))
  refine pt_d (pt_idiv gx15_12 h3 h4 (fun v5 h5 => ?_))
  refine pt_d (pt_1 (fun n d => r_istore (L' := [some (.ref 41), some (.int x1), some (.long v1), none, some (.int v5), none]) gx15_13 rfl rfl) ?_)
  refine pt_d (pt_iconst gx15_15 (fun v6 h6 => ?_))
  refine pt_d (pt_1 (fun n d => r_istore (L' := [some (.ref 41), some (.int x1), some (.long v1), none, some (.int v5), some (.int v6)]) gx15_16 rfl rfl) ?_)
  exact H v1 v5 v6 h1 h5 h6
theorem d15_18 {n : Nat} {X : aX} {h : aH} {P : Int → aH → Prop} {x1 x4 x5 : Int32} {x2 : Int64} {a1 a4 a5 a2 : Int} (S : wS h) (z1 : x1.toInt = a1) (z2 : x2.toInt = a2) (z4 : x4.toInt = a4) (z5 : x5.toInt = a5) (H : ((a4 ≤ a5 → P (w32 (max (-1999999999) (min 2000000000 a2))) h) ∧ (a5 < a4 → ((10 ≤ a5 → P (w32 (max (-1999999999) (min 2000000000 a2))) h) ∧ (a5 < 10 → ((pr8p h a1 a5 (vw h 1 0) (-1)) ∧ ∀ (y17 : Int) (h_17 : aH), (RP8 h a1 a5 (vw h 1 0) (-1) y17 h_17) → (0 ≤ w32 ((w32 (a1 * 10)) + a5) → w32 ((w32 (a1 * 10)) + a5) < 1500 → (∀ (w2 : Int64) (w5 : Int32), w2.toInt = w64 (a2 + (w32 (y17 - (vw h_17 46 (w32 ((w32 (a1 * 10)) + a5)))))) → w5.toInt = w32 (a5 + 1) → Pt n X zM15 18 [some (.ref 41), some (.int x1), some (.long w2), none, some (.int x4), some (.int w5)] [] h_17 (qI P))))))))) : Pt (n + 1) X zM15 18 [some (.ref 41), some (.int x1), some (.long x2), none, some (.int x4), some (.int x5)] [] h (qI P) := by
  refine pt_1 (fun n d => r_iload gx15_18 rfl) ?_
  refine pt_d (pt_1 (fun n d => r_iload gx15_20 rfl) ?_)
  refine pt_d (pt_icmp_ge gx15_22 z5 z4 (fun e1 => ?_) (fun e1 => ?_))
  · have H := H.1 e1
    refine pt_d (pt_ldc2_w (c := (-1999999999)) gx15_70 rfl (fun v2 h2 => ?_))
    refine pt_d (pt_ldc2_w (c := 2000000000) gx15_73 rfl (fun v3 h3 => ?_))
    refine pt_d (pt_1 (fun n d => r_lloadn gx15_76 rfl) ?_)
    refine pt_d (pt_lmin gx15_77 rfl h3 z2 (fun v4 h4 => ?_))
    refine pt_d (pt_lmax gx15_80 rfl h2 h4 (fun v5 h5 => ?_))
    refine pt_d (pt_l2i gx15_83 h5 (fun v6 h6 => ?_))
    exact pt_d (pt_iret gx15_84 ⟨_, rfl, by rw [h6]; exact H⟩)
  · have H := H.2 e1
    refine pt_d (pt_1 (fun n d => r_iload gx15_25 rfl) ?_)
    refine pt_d (pt_bipush gx15_27 (fun v7 h7 => ?_))
    refine pt_d (pt_icmp_ge gx15_29 z5 h7 (fun e8 => ?_) (fun e8 => ?_))
    · have H := H.1 e8
      refine pt_d (pt_ldc2_w (c := (-1999999999)) gx15_70 rfl (fun v9 h9 => ?_))
      refine pt_d (pt_ldc2_w (c := 2000000000) gx15_73 rfl (fun v10 h10 => ?_))
      refine pt_d (pt_1 (fun n d => r_lloadn gx15_76 rfl) ?_)
      refine pt_d (pt_lmin gx15_77 rfl h10 z2 (fun v11 h11 => ?_))
      refine pt_d (pt_lmax gx15_80 rfl h9 h11 (fun v12 h12 => ?_))
      refine pt_d (pt_l2i gx15_83 h12 (fun v13 h13 => ?_))
      exact pt_d (pt_iret gx15_84 ⟨_, rfl, by rw [h13]; exact H⟩)
    · have H := H.2 e8
      refine pt_d (pt_1 (fun n d => r_lloadn gx15_32 rfl) ?_)
      refine pt_d (pt_1 (fun n d => r_aloadn gx15_33 rfl) ?_)
      refine pt_d (pt_1 (fun n d => r_iloadn gx15_34 rfl) ?_)
      refine pt_d (pt_1 (fun n d => r_iload gx15_35 rfl) ?_)
      refine pt_d (pt_1 (fun n d => r_aloadn gx15_37 rfl) ?_)
      refine pt_d (pt_getR gx15_38 S tr_41_0 ?_)
      refine pt_d (pt_getI (B := 0) gx15_41 S (fun v15 h15 => ?_))
      refine pt_d (pt_iconst gx15_44 (fun v16 h16 => ?_))
      obtain ⟨pr17, H⟩ := H
      refine pt_d (pt_virt (as := [.int x1, .int x5, .int v15, .int v16]) (r := [.long x2]) gx15_45 rfl (show zmt[8]? = some zM8 from rfl) rfl rfl rfl rfl (c_8p S z1 z5 h15 h16 pr17) (kqI (fun v17 y17 h_17 h17 P17 => ?_)))
      have S17 := P17.1
      have H := H y17 h_17 P17
      show Pt _ _ _ 48 _ [.int v17, .long x2] _ _
      refine pt_d (pt_1 (fun n d => r_aloadn gx15_48 rfl) ?_)
      refine pt_d (pt_getR gx15_49 S17 tr_41_8 ?_)
      refine pt_d (pt_1 (fun n d => r_iloadn gx15_52 rfl) ?_)
      refine pt_d (pt_bipush gx15_53 (fun v19 h19 => ?_))
      refine pt_d (pt_imul gx15_55 z1 h19 (fun v20 h20 => ?_))
      refine pt_d (pt_1 (fun n d => r_iload gx15_56 rfl) ?_)
      refine pt_d (pt_iadd gx15_58 h20 z5 (fun v21 h21 => ?_))
      refine pt_d (pt_iald (N' := 1500) gx15_59 S17 tl_46 h21 (fun v22 p22 q22 h22 => ?_))
      have H := H p22 q22
      refine pt_d (pt_isub gx15_60 h17 h22 (fun v23 h23 => ?_))
      refine pt_d (pt_i2l gx15_61 h23 (fun v24 h24 => ?_))
      refine pt_d (pt_ladd gx15_62 z2 h24 (fun v25 h25 => ?_))
      refine pt_d (pt_1 (fun n d => r_lstoren (L' := [some (.ref 41), some (.int x1), some (.long v25), none, some (.int x4), some (.int x5)]) gx15_63 rfl rfl) ?_)
      refine pt_d (pt_iinc (c := 1) gx15_64 rfl z5 (fun v26 h26 => ?_))
      show Pt _ _ _ _ [some (.ref 41), some (.int x1), some (.long v25), none, some (.int x4), some (.int v26)] [] _ _
      refine pt_d (pt_1 (fun n d => r_goto gx15_67) ?_)
      exact H v25 v26 h25 h26
noncomputable def bkF (V : vS) (f : Int) : Nat → Int
  | 0 => 0
  | n + 1 => bkF V f n + (payF V f (n : Nat) (V 1 0) (-1) - V 46 (10 * f + (n : Nat)))
def hlB (z : Int) : Int := max (-1999999999) (min 2000000000 z)
theorem bkF_b {V : vS} (J : JSet V) {f : Int} (hf : 0 ≤ f ∧ f < 150) : ∀ n : Nat, n ≤ 10 → -(2000000000 * (n : Int)) ≤ bkF V f n ∧ bkF V f n ≤ 2000000000 * (n : Int)
  | 0, _ => ⟨by show -(2000000000 * ((0 : Nat) : Int)) ≤ 0; omega, by show (0 : Int) ≤ 2000000000 * ((0 : Nat) : Int); omega⟩
  | n + 1, h => by
    have ih := bkF_b J hf n (by omega)
    have p := payF_b V f (n : Nat) (V 1 0) (-1)
    have s := J (10 * f + (n : Nat)) (by omega) (by omega)
    have e : bkF V f (n + 1) = bkF V f n + (payF V f (n : Nat) (V 1 0) (-1) - V 46 (10 * f + (n : Nat))) := rfl
    rw [e]
    omega
def pr15 (h : aH) (f : Int) : Prop := (IV h ∧ PB (vw h) ∧ cFarm (vw h) f) ∧ (0 ≤ vw h 1 0 ∧ vw h 1 0 ≤ 3649) ∧ JSet (vw h)
def R15 (h : aH) (f r : Int) (h' : aH) : Prop := wS h' ∧ r = hlB (bkF (vw h) f (iDiv (vw h 1 0) 365).toNat) ∧ IV h' ∧ uf (vw h) (vw h') ∧ ∀ j, vw h' 46 j = vw h 46 j ∧ vw h' 129 j = vw h 129 j
theorem l_15 {X : aX} {h0 : aH} {f : Int} (hp : pr15 h0 f) : ∀ (n : Nat) (h : aH) (x1 x4 x5 : Int32) (x2 : Int64) (k : Nat), wS h → IV h → uf (vw h0) (vw h) → (∀ j, vw h 46 j = vw h0 46 j ∧ vw h 129 j = vw h0 129 j) → x1.toInt = f → x2.toInt = bkF (vw h0) f k → x4.toInt = iDiv (vw h0 1 0) 365 → x5.toInt = (k : Int) → (k : Int) ≤ iDiv (vw h0 1 0) 365 → Pt n X zM15 18 [some (.ref 41), some (.int x1), some (.long x2), none, some (.int x4), some (.int x5)] [] h (qI (fun r h' => R15 h0 f r h')) := by
  obtain ⟨⟨I0, B, cf⟩, d, J⟩ := hp
  have fb := (PB_l B cf).1
  have yb := yr_b d
  intro n
  induction n with
  | zero => exact fun _ _ _ _ _ _ _ _ _ _ _ _ _ _ _ => pt_z
  | succ n ih =>
    intro h x1 x4 x5 x2 k S I u e46 h1 h2 h4 h5 hk
    have bb := bkF_b J fb k (by omega)
    have fin' : iDiv (vw h0 1 0) 365 ≤ (k : Int) → R15 h0 f (w32 (max (-1999999999) (min 2000000000 (bkF (vw h0) f k)))) h := fun ge => by
      have kn : (iDiv (vw h0 1 0) 365).toNat = k := by omega
      refine ⟨S, ?_, I, u, e46⟩
      rw [kn, w32_id (by omega) (by omega)]
      rfl
    have e10 : vw h 1 0 = vw h0 1 0 := u 1 0 (by decide) (Or.inl (by decide)) (Or.inl (by decide))
    refine d15_18 S h1 h2 h4 h5 ⟨fun ge => fin' ge, fun lt => ⟨fun ge => by omega, fun lt10 => ⟨⟨I, PB_u u B, (by
      have c := cf
      unfold cFarm cBody at c ⊢
      rw [u 1 1 (by decide) (Or.inl (by decide)) (Or.inl (by decide)), u 2 f (by decide) (Or.inl (by decide)) (Or.inl (by decide))]
      exact c), by omega, by rw [e10]; exact d, Or.inl rfl⟩, fun y17 h17 R _ _ w2 w5 g2 g5 => ?_⟩⟩⟩
    obtain ⟨S17, ⟨I17, u17⟩, ⟨ev, -⟩, fr⟩ := R
    have i46 : ∀ j, vw h17 46 j = vw h0 46 j := fun j => (fr 46 j (by decide) (by decide) (by decide) (by decide) (Or.inl (by decide)) (by decide) (Or.inl (by decide))).trans (e46 j).1
    have i129 : ∀ j, vw h17 129 j = vw h0 129 j := fun j => (fr 129 j (by decide) (by decide) (by decide) (by decide) (Or.inl (by decide)) (by decide) (Or.inl (by decide))).trans (e46 j).2
    rw [e10, payF_u u] at ev
    have pb := payF_b (vw h0) f (k : Nat) (vw h0 1 0) (-1)
    have sb := J (10 * f + (k : Nat)) (by omega) (by omega)
    rw [Int.mul_comm f 10, ix10 fb (by omega), i46, ev, w32_id (by omega) (by omega), w64_id (by omega) (by omega)] at g2
    replace g5 := w_1 g5 (by omega) (by omega)
    exact ih h17 x1 x4 w5 w2 (k + 1) S17 I17 (uf_t u u17) (fun j => ⟨i46 j, i129 j⟩) h1 g2 h4 (by omega) (by omega)
theorem c_15 {n : Nat} {X : aX} {h : aH} {x1 : Int32} {a1 : Int} (S : wS h) (z1 : x1.toInt = a1) (hp : pr15 h a1) : Pt n X zM15 0 [some (.ref 41), some (.int x1), none, none, none, none] [] h (qI (fun r h' => R15 h a1 r h')) :=
  pt_d (d15_0 S z1 (fun w2 w4 w5 g2 g4 g5 => l_15 hp n h x1 w4 w5 w2 0 S hp.1.1 (uf_r _) (fun _ => ⟨rfl, rfl⟩) z1 g2 g4 g5 (yr_b hp.2.1).1))

theorem d173_0 {n : Nat} {X : aX} {h : aH} {P : Int → aH → Prop} {x1 : Int32} {a1 : Int} (S : wS h) (z1 : x1.toInt = a1) (H : ((¬ (cFarm (vw h) a1) → P (-2000000000) h) ∧ ((cFarm (vw h) a1) → ((pr15 h a1) ∧ ∀ (y6 : Int) (h_6 : aH), (R15 h a1 y6 h_6) → P y6 h_6)))) : Pt (n + 1) X zM173 0 [some (.ref 0), some (.int x1)] [] h (qI P) := by
  refine pt_1 (fun n d => r_aloadn gx173_0 rfl) ?_
  refine pt_d (pt_getR gx173_1 S tr_0_0 ?_)
  refine pt_d (pt_1 (fun n d => r_iloadn gx173_4 rfl) ?_)
  refine pt_d (pt_virt (as := [.int x1]) (r := []) gx173_5 rfl (show zmt[75]? = some zM75 from rfl) rfl rfl rfl rfl (c_75 S z1) (kqP (fun v2 h2 => ?_)))
  show Pt _ _ _ 8 _ [.int v2] _ _
  refine pt_d (pt_ifB_eq gx173_8 h2 (fun e3 => ?_) (fun e3 => ?_))
  · have H := H.1 e3
    refine pt_d (pt_ldc (c := (-2000000000)) gx173_22 rfl (fun v4 h4 => ?_))
    exact pt_d (pt_iret gx173_24 ⟨_, rfl, by rw [h4]; exact H⟩)
  · have H := H.2 e3
    refine pt_d (pt_1 (fun n d => r_aloadn gx173_11 rfl) ?_)
    refine pt_d (pt_getR gx173_12 S tr_0_4 ?_)
    refine pt_d (pt_1 (fun n d => r_iloadn gx173_15 rfl) ?_)
    obtain ⟨pr6, H⟩ := H
    refine pt_d (pt_virt (as := [.int x1]) (r := []) gx173_16 rfl (show zmt[15]? = some zM15 from rfl) rfl rfl rfl rfl (c_15 S z1 pr6) (kqI (fun v6 y6 h_6 h6 P6 => ?_)))
    have S6 := P6.1
    have H := H y6 h_6 P6
    show Pt _ _ _ 19 _ [.int v6] _ _
    refine pt_d (pt_1 (fun n d => r_goto gx173_19) ?_)
    exact pt_d (pt_iret gx173_24 ⟨_, rfl, by rw [h6]; exact H⟩)
theorem d280_0 {n : Nat} {X : aX} {h : aH} {P : Int → aH → Prop} {x1 : Int32} {a1 : Int} (S : wS h) (z1 : x1.toInt = a1) (H : (((mFarm (vw h) a1) → (∀ (w2 : Int64) (w4 : Int32), w2.toInt = 0 → w4.toInt = 0 → Pt n X zM280 17 [some (.ref 72), some (.int x1), some (.long w2), none, some (.int w4)] [] h (qI P))) ∧ (¬ (mFarm (vw h) a1) → P (-2000000000) h))) : Pt (n + 1) X zM280 0 [some (.ref 72), some (.int x1), none, none, none] [] h (qI P) := by
  refine pt_1 (fun n d => r_aloadn gx280_0 rfl) ?_
  refine pt_d (pt_1 (fun n d => r_iloadn gx280_1 rfl) ?_)
  refine pt_d (pt_virt (as := [.int x1]) (r := []) gx280_2 rfl (show zmt[202]? = some zM202 from rfl) rfl rfl rfl rfl (c_202 S z1) (kqP (fun v1 h1 => ?_)))
  show Pt _ _ _ 5 _ [.int v1] _ _
  refine pt_d (pt_ifB_ne gx280_5 h1 (fun e2 => ?_) (fun e2 => ?_))
  · have H := H.1 e2
    refine pt_d (pt_lconst (c := 0) gx280_12 rfl (fun v3 h3 => ?_))
    refine pt_d (pt_1 (fun n d => r_lstoren (L' := [some (.ref 72), some (.int x1), some (.long v3), none, none]) gx280_13 rfl rfl) ?_)
    refine pt_d (pt_iconst gx280_14 (fun v4 h4 => ?_))
    refine pt_d (pt_1 (fun n d => r_istore (L' := [some (.ref 72), some (.int x1), some (.long v3), none, some (.int v4)]) gx280_15 rfl rfl) ?_)
    exact H v3 v4 h3 h4
  · have H := H.2 e2
    refine pt_d (pt_ldc_w (c := (-2000000000)) gx280_8 rfl (fun v5 h5 => ?_))
    exact pt_d (pt_iret gx280_11 ⟨_, rfl, by rw [h5]; exact H⟩)
theorem d280_17 {n : Nat} {X : aX} {h : aH} {P : Int → aH → Prop} {x1 x4 : Int32} {x2 : Int64} {a1 a4 a2 : Int} (S : wS h) (z1 : x1.toInt = a1) (z2 : x2.toInt = a2) (z4 : x4.toInt = a4) (H : ((iDiv (vw h 72 1) 365 ≤ a4 → (((-1999999999) ≤ a2 → ((a2 ≤ 2000000000 → P (w32 a2) h) ∧ (2000000000 < a2 → P 2000000000 h))) ∧ (a2 < (-1999999999) → P (-1999999999) h))) ∧ (a4 < iDiv (vw h 72 1) 365 → ((pr8p h a1 a4 (vw h 72 1) (-1)) ∧ ∀ (y14 : Int) (h_14 : aH), (RP277 h a1 a4 (vw h 72 1) (-1) y14 h_14) → (0 ≤ w32 ((w32 (10 * a1)) + a4) → w32 ((w32 (10 * a1)) + a4) < 1500 → (∀ (w2 : Int64) (w4 : Int32), w2.toInt = w64 (a2 + (w64 (y14 - (vw h_14 129 (w32 ((w32 (10 * a1)) + a4)))))) → w4.toInt = w32 (a4 + 1) → Pt n X zM280 17 [some (.ref 72), some (.int x1), some (.long w2), none, some (.int w4)] [] h_14 (qI P))))))) : Pt (n + 1) X zM280 17 [some (.ref 72), some (.int x1), some (.long x2), none, some (.int x4)] [] h (qI P) := by
  refine pt_1 (fun n d => r_iload gx280_17 rfl) ?_
  refine pt_d (pt_1 (fun n d => r_aloadn gx280_19 rfl) ?_)
  refine pt_d (pt_getI (B := 1) gx280_20 S (fun v1 h1 => ?_))
  refine pt_d (pt_sipush gx280_23 (fun v2 h2 => ?_))
  refine pt_d (pt_idiv gx280_26 h1 h2 (fun v3 h3 => ?_))
  refine pt_d (pt_icmp_ge gx280_27 z4 h3 (fun e4 => ?_) (fun e4 => ?_))
  · have H := H.1 e4
    refine pt_d (pt_1 (fun n d => r_lloadn gx280_66 rfl) ?_)
    refine pt_d (pt_ldc2_w (c := (-1999999999)) gx280_67 rfl (fun v5 h5 => ?_))
    refine pt_d (pt_lcmp_ge gx280_70 gx280_71 z2 h5 (fun e6 => ?_) (fun e6 => ?_))
    · have H := H.1 e6
      refine pt_d (pt_1 (fun n d => r_lloadn gx280_80 rfl) ?_)
      refine pt_d (pt_ldc2_w (c := 2000000000) gx280_81 rfl (fun v7 h7 => ?_))
      refine pt_d (pt_lcmp_le gx280_84 gx280_85 z2 h7 (fun e8 => ?_) (fun e8 => ?_))
      · have H := H.1 e8
        refine pt_d (pt_1 (fun n d => r_lloadn gx280_94 rfl) ?_)
        refine pt_d (pt_l2i gx280_95 z2 (fun v9 h9 => ?_))
        exact pt_d (pt_iret gx280_96 ⟨_, rfl, by rw [h9]; exact H⟩)
      · have H := H.2 e8
        refine pt_d (pt_ldc_w (c := 2000000000) gx280_88 rfl (fun v10 h10 => ?_))
        refine pt_d (pt_1 (fun n d => r_goto gx280_91) ?_)
        exact pt_d (pt_iret gx280_96 ⟨_, rfl, by rw [h10]; exact H⟩)
    · have H := H.2 e6
      refine pt_d (pt_ldc_w (c := (-1999999999)) gx280_74 rfl (fun v11 h11 => ?_))
      refine pt_d (pt_1 (fun n d => r_goto gx280_77) ?_)
      exact pt_d (pt_iret gx280_96 ⟨_, rfl, by rw [h11]; exact H⟩)
  · have H := H.2 e4
    refine pt_d (pt_1 (fun n d => r_lloadn gx280_30 rfl) ?_)
    refine pt_d (pt_1 (fun n d => r_aloadn gx280_31 rfl) ?_)
    refine pt_d (pt_1 (fun n d => r_iloadn gx280_32 rfl) ?_)
    refine pt_d (pt_1 (fun n d => r_iload gx280_33 rfl) ?_)
    refine pt_d (pt_1 (fun n d => r_aloadn gx280_35 rfl) ?_)
    refine pt_d (pt_getI (B := 1) gx280_36 S (fun v12 h12 => ?_))
    refine pt_d (pt_iconst gx280_39 (fun v13 h13 => ?_))
    obtain ⟨pr14, H⟩ := H
    refine pt_d (pt_virt (as := [.int x1, .int x4, .int v12, .int v13]) (r := [.long x2]) gx280_40 rfl (show zmt[277]? = some zM277 from rfl) rfl rfl rfl rfl (c_277p S z1 z4 h12 h13 pr14) (kqI (fun v14 y14 h_14 h14 P14 => ?_)))
    have S14 := P14.1
    have H := H y14 h_14 P14
    show Pt _ _ _ 43 _ [.int v14, .long x2] _ _
    refine pt_d (pt_i2l gx280_43 h14 (fun v15 h15 => ?_))
    refine pt_d (pt_1 (fun n d => r_aloadn gx280_44 rfl) ?_)
    refine pt_d (pt_getR gx280_45 S14 tr_72_76 ?_)
    refine pt_d (pt_bipush gx280_48 (fun v17 h17 => ?_))
    refine pt_d (pt_1 (fun n d => r_iloadn gx280_50 rfl) ?_)
    refine pt_d (pt_imul gx280_51 h17 z1 (fun v18 h18 => ?_))
    refine pt_d (pt_1 (fun n d => r_iload gx280_52 rfl) ?_)
    refine pt_d (pt_iadd gx280_54 h18 z4 (fun v19 h19 => ?_))
    refine pt_d (pt_iald (N' := 1500) gx280_55 S14 tl_129 h19 (fun v20 p20 q20 h20 => ?_))
    have H := H p20 q20
    refine pt_d (pt_i2l gx280_56 h20 (fun v21 h21 => ?_))
    refine pt_d (pt_lsub gx280_57 h15 h21 (fun v22 h22 => ?_))
    refine pt_d (pt_ladd gx280_58 z2 h22 (fun v23 h23 => ?_))
    refine pt_d (pt_1 (fun n d => r_lstoren (L' := [some (.ref 72), some (.int x1), some (.long v23), none, some (.int x4)]) gx280_59 rfl rfl) ?_)
    refine pt_d (pt_iinc (c := 1) gx280_60 rfl z4 (fun v24 h24 => ?_))
    show Pt _ _ _ _ [some (.ref 72), some (.int x1), some (.long v23), none, some (.int v24)] [] _ _
    refine pt_d (pt_1 (fun n d => r_goto gx280_63) ?_)
    exact H v23 v24 h23 h24
def R173 (V V' : vS) (f r : Int) (W : vS) : Prop := (¬ cFarm V f ∧ r = -2000000000 ∧ W = V') ∨ (cFarm V f ∧ r = hlB (bkF V f (iDiv (V 1 0) 365).toNat) ∧ uf V W ∧ ∀ j, W 46 j = V 46 j ∧ W 129 j = V 129 j)
theorem c_173w {n : Nat} {X : aX} {h : aH} {x1 : Int32} {a1 : Int} (S : wS h) (z1 : x1.toInt = a1) (I : IV h) (B : PB (vw h)) (d : 0 ≤ vw h 1 0 ∧ vw h 1 0 ≤ 3649) (J : JSet (vw h)) : Pt n X zM173 0 [some (.ref 0), some (.int x1)] [] h (qI (fun r h' => R173 (vw h) (vw h) a1 r (vw h') ∧ IV h')) :=
  pt_d (d173_0 S z1 ⟨fun e => ⟨Or.inl ⟨e, rfl, rfl⟩, I⟩, fun e => ⟨⟨⟨I, B, e⟩, d, J⟩, fun y g k => ⟨Or.inr ⟨e, k.2.1, k.2.2.2.1, k.2.2.2.2⟩, k.2.2.1⟩⟩⟩)
theorem l_280 {X : aX} {h0 : aH} {f : Int} (hp : pr15 h0 f) (hd : vw h0 1 0 = vw h0 72 1) : ∀ (n : Nat) (h : aH) (x1 x4 : Int32) (x2 : Int64) (k : Nat), wS h → IV h → uf (vw h0) (vw h) → (∀ j, vw h 46 j = vw h0 46 j ∧ vw h 129 j = vw h0 129 j) → x1.toInt = f → x2.toInt = bkF (vw h0) f k → x4.toInt = (k : Int) → (k : Int) ≤ iDiv (vw h0 1 0) 365 → Pt n X zM280 17 [some (.ref 72), some (.int x1), some (.long x2), none, some (.int x4)] [] h (qI (fun r h' => R15 h0 f r h')) := by
  obtain ⟨⟨I0, B, cf⟩, d, J⟩ := hp
  have fb := (PB_l B cf).1
  have yb := yr_b d
  intro n
  induction n with
  | zero => exact fun _ _ _ _ _ _ _ _ _ _ _ _ _ => pt_z
  | succ n ih =>
    intro h x1 x4 x2 k S I u e46 h1 h2 h4 hk
    have bb := bkF_b J fb k (by omega)
    have e72 : vw h 72 1 = vw h0 1 0 := (u 72 1 (by decide) (Or.inl (by decide)) (by decide)).trans hd.symm
    have fin' : ∀ r, r = hlB (bkF (vw h0) f k) → iDiv (vw h0 1 0) 365 ≤ (k : Int) → R15 h0 f r h := fun r er ge => by
      have kn : (iDiv (vw h0 1 0) 365).toNat = k := by omega
      exact ⟨S, by rw [kn]; exact er, I, u, e46⟩
    have D := d280_17 (n := n) (X := X) (h := h) (P := fun r h' => R15 h0 f r h') S h1 h2 h4
    rw [e72] at D
    refine D ⟨fun ge => ⟨fun lo => ⟨fun hi => fin' _ ?_ ge, fun hi => fin' _ ?_ ge⟩, fun lo => fin' _ ?_ ge⟩, fun lt => ⟨⟨I, PB_u u B, (by
      have c := cf
      unfold cFarm cBody at c ⊢
      rw [u 1 1 (by decide) (Or.inl (by decide)) (Or.inl (by decide)), u 2 f (by decide) (Or.inl (by decide)) (Or.inl (by decide))]
      exact c), by omega, d, Or.inl rfl⟩, fun y14 h14 R _ _ w2 w4 g2 g4 => ?_⟩⟩
    · unfold hlB
      rw [w32_id (by omega) (by omega)]
      omega
    · unfold hlB
      omega
    · unfold hlB
      omega
    · obtain ⟨S14, ⟨I14, u14⟩, ⟨ev, -⟩, -, fr⟩ := R
      have i46 : ∀ j, vw h14 46 j = vw h0 46 j := fun j => (fr 46 j (Or.inl (by decide)) (Or.inl (by decide)) (Or.inl (by decide))).trans (e46 j).1
      have i129 : ∀ j, vw h14 129 j = vw h0 129 j := fun j => (fr 129 j (Or.inr (by decide)) (Or.inr (by decide)) (Or.inl (by decide))).trans (e46 j).2
      rw [payF_u u] at ev
      have pb := payF_b (vw h0) f (k : Nat) (vw h0 1 0) (-1)
      have sb := J (10 * f + (k : Nat)) (by omega) (by omega)
      rw [ix10 fb (by omega), i129, ← sb.1, ev, w64_id (z := payF (vw h0) f (k : Nat) (vw h0 1 0) (-1) - vw h0 46 (10 * f + (k : Nat))) (by omega) (by omega), w64_id (by omega) (by omega)] at g2
      replace g4 := w_1 g4 (by omega) (by omega)
      exact ih h14 x1 w4 w2 (k + 1) S14 I14 (uf_t u u14) (fun j => ⟨i46 j, i129 j⟩) h1 g2 (by omega) (by omega)
theorem c_280w {n : Nat} {X : aX} {h : aH} {x1 : Int32} {a1 : Int} (S : wS h) (z1 : x1.toInt = a1) (I : IV h) (B : PB (vw h)) (d : 0 ≤ vw h 1 0 ∧ vw h 1 0 ≤ 3649) (J : JSet (vw h)) (hd : vw h 1 0 = vw h 72 1) : Pt n X zM280 0 [some (.ref 72), some (.int x1), none, none, none] [] h (qI (fun r h' => R173 (vw h) (vw h) a1 r (vw h') ∧ IV h')) := by
  have Bd := B.1.1.2.1
  refine pt_d (d280_0 S z1 ⟨fun e w2 w4 g2 g4 => ?_, fun e => ⟨Or.inl ⟨fun z => e ((farm_j Bd a1).mp z), rfl, rfl⟩, I⟩⟩)
  have cf := (farm_j Bd a1).mpr e
  refine pt_q (l_280 ⟨⟨I, B, cf⟩, d, J⟩ hd n h x1 w4 w2 0 S I (uf_r _) (fun _ => ⟨rfl, rfl⟩) z1 g2 g4 (yr_b d).1) ?_
  rintro v h' ⟨x, ex, k⟩
  exact ⟨x, ex, Or.inr ⟨cf, k.2.1, k.2.2.2.1, k.2.2.2.2⟩, k.2.2.1⟩
theorem uf_hd {V W : vS} (a : uf V W) (hd : V 1 0 = V 72 1) : W 1 0 = W 72 1 := by
  rw [a 1 0 (by decide) (Or.inl (by decide)) (Or.inl (by decide)), a 72 1 (by decide) (Or.inl (by decide)) (by decide)]
  exact hd
theorem bkF_u {V W : vS} (a : uf V W) (e : ∀ j, W 46 j = V 46 j) (f : Int) : ∀ n : Nat, bkF W f n = bkF V f n
  | 0 => rfl
  | n + 1 => by
    have h : ∀ V : vS, bkF V f (n + 1) = bkF V f n + (payF V f (n : Nat) (V 1 0) (-1) - V 46 (10 * f + (n : Nat))) := fun _ => rfl
    rw [h, h, bkF_u a e f n, payF_u a, e, a 1 0 (by decide) (Or.inl (by decide)) (Or.inl (by decide))]
theorem R173_B {V : vS} {f r : Int} {W : vS} (c : R173 V V f r W) : uf V W ∧ ∀ j, W 46 j = V 46 j ∧ W 129 j = V 129 j := by
  rcases c with ⟨-, -, rfl⟩ | ⟨-, -, u, e⟩
  · exact ⟨uf_r _, fun _ => ⟨rfl, rfl⟩⟩
  · exact ⟨u, e⟩
theorem jx_29 {h h1 h2 : aH} {f r1 r2 : Int} (c : R173 (vw h) (vw h) f r1 (vw h1) ∧ IV h1) (k : R173 (vw h1) (vw h1) f r2 (vw h2) ∧ IV h2) : (JSea (vw h2) ∧ JRk (vw h2)) ∧ r1 = r2 := by
  refine ⟨⟨JSea_IV k.2, rOK_IV k.2⟩, ?_⟩
  obtain ⟨u, e⟩ := R173_B c.1
  have cF : cFarm (vw h1) f ↔ cFarm (vw h) f := by
    unfold cFarm cBody
    rw [u 1 1 (by decide) (Or.inl (by decide)) (Or.inl (by decide)), u 2 f (by decide) (Or.inl (by decide)) (Or.inl (by decide))]
  rcases c.1 with ⟨n, rfl, -⟩ | ⟨o, rfl, -⟩
  · rcases k.1 with ⟨-, rfl, -⟩ | ⟨o, -⟩
    · rfl
    · exact absurd (cF.mp o) n
  · rcases k.1 with ⟨n, -⟩ | ⟨-, rfl, -⟩
    · exact absurd (cF.mpr o) n
    · rw [u 1 0 (by decide) (Or.inl (by decide)) (Or.inl (by decide)), bkF_u u (fun j => (e j).1)]


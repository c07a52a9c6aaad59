-- ===== seasons: the class makes =====
theorem d1_0 {n : Nat} {X : aX} {h : aH} {P : Nat → aH → Prop} {x1 x2 : Int32} {a1 a2 : Int} (S : wS h) (z1 : x1.toInt = a1) (z2 : x2.toInt = a2) (H : ((0 ≤ a1 → a1 < 10 → vw h 42 a1 = -1 → ∀ (q17 : Nat) (h_17 : aH), wS h_17 → nwO h q17 h_17 → ((146 ≤ q17) ∧ ∀ (h_20 : aH), (wS h_20 ∧ ini h_17 q17 a1 h_20) → ∀ h_22 : aH, wS h_22 → 0 ≤ a1 → a1 < 10 → vw h_22 = up (vw h_20) 42 a1 (q17 : Int) → (∀ c, c ≠ 42 → h_22.1[c]? = h_20.1[c]?) → ((vw h_22 q17 3 ≠ a2 → ((146 ≤ q17 ∧ pre97 h_22 q17) ∧ ∀ (h_25 : aH), (wS h_25 ∧ hk h_22 h_25 ∧ R97 (vw h_22) q17 a2 (w32 ((w32 ((w32 ((w32 ((vw h 1 1) + (vw h 1 5))) + (vw h 16 1))) + (vw h 16 2))) + (vw h 16 3))) (vw h_25)) → P q17 h_25)) ∧ (vw h_22 q17 3 = a2 → ((vw h_22 q17 4 = w32 ((w32 ((w32 ((w32 ((vw h 1 1) + (vw h 1 5))) + (vw h 16 1))) + (vw h 16 2))) + (vw h 16 3)) → P q17 h_22) ∧ (vw h_22 q17 4 ≠ w32 ((w32 ((w32 ((w32 ((vw h 1 1) + (vw h 1 5))) + (vw h 16 1))) + (vw h 16 2))) + (vw h 16 3)) → ((146 ≤ q17 ∧ pre97 h_22 q17) ∧ ∀ (h_28 : aH), (wS h_28 ∧ hk h_22 h_28 ∧ R97 (vw h_22) q17 a2 (w32 ((w32 ((w32 ((w32 ((vw h 1 1) + (vw h 1 5))) + (vw h 16 1))) + (vw h 16 2))) + (vw h 16 3))) (vw h_28)) → P q17 h_28))))))) ∧ (∀ q16 : Nat, 0 ≤ a1 → a1 < 10 → (q16 : Int) = vw h 42 a1 → ((vw h q16 3 ≠ a2 → ((146 ≤ q16 ∧ pre97 h q16) ∧ ∀ (h_31 : aH), (wS h_31 ∧ hk h h_31 ∧ R97 (vw h) q16 a2 (w32 ((w32 ((w32 ((w32 ((vw h 1 1) + (vw h 1 5))) + (vw h 16 1))) + (vw h 16 2))) + (vw h 16 3))) (vw h_31)) → P q16 h_31)) ∧ (vw h q16 3 = a2 → ((vw h q16 4 = w32 ((w32 ((w32 ((w32 ((vw h 1 1) + (vw h 1 5))) + (vw h 16 1))) + (vw h 16 2))) + (vw h 16 3)) → P q16 h) ∧ (vw h q16 4 ≠ w32 ((w32 ((w32 ((w32 ((vw h 1 1) + (vw h 1 5))) + (vw h 16 1))) + (vw h 16 2))) + (vw h 16 3)) → ((146 ≤ q16 ∧ pre97 h q16) ∧ ∀ (h_34 : aH), (wS h_34 ∧ hk h h_34 ∧ R97 (vw h) q16 a2 (w32 ((w32 ((w32 ((w32 ((vw h 1 1) + (vw h 1 5))) + (vw h 16 1))) + (vw h 16 2))) + (vw h 16 3))) (vw h_34)) → P q16 h_34)))))))) : Pt (n + 1) X zM1 0 [some (.ref 41), some (.int x1), some (.int x2), none, none] [] h (qR P) := by
  refine pt_1 (fun n d => r_aloadn gx1_0 rfl) ?_
  refine pt_d (pt_getR gx1_1 S tr_41_0 ?_)
  refine pt_d (pt_getI (B := 1) gx1_4 S (fun v2 h2 => ?_))
  refine pt_d (pt_1 (fun n d => r_aloadn gx1_7 rfl) ?_)
  refine pt_d (pt_getR gx1_8 S tr_41_0 ?_)
  refine pt_d (pt_getI (B := 5) gx1_11 S (fun v4 h4 => ?_))
  refine pt_d (pt_iadd gx1_14 h2 h4 (fun v5 h5 => ?_))
  refine pt_d (pt_1 (fun n d => r_aloadn gx1_15 rfl) ?_)
  refine pt_d (pt_getR gx1_16 S tr_41_1 ?_)
  refine pt_d (pt_getI (B := 1) gx1_19 S (fun v7 h7 => ?_))
  refine pt_d (pt_iadd gx1_22 h5 h7 (fun v8 h8 => ?_))
  refine pt_d (pt_1 (fun n d => r_aloadn gx1_23 rfl) ?_)
  refine pt_d (pt_getR gx1_24 S tr_41_1 ?_)
  refine pt_d (pt_getI (B := 2) gx1_27 S (fun v10 h10 => ?_))
  refine pt_d (pt_iadd gx1_30 h8 h10 (fun v11 h11 => ?_))
  refine pt_d (pt_1 (fun n d => r_aloadn gx1_31 rfl) ?_)
  refine pt_d (pt_getR gx1_32 S tr_41_1 ?_)
  refine pt_d (pt_getI (B := 3) gx1_35 S (fun v13 h13 => ?_))
  refine pt_d (pt_iadd gx1_38 h11 h13 (fun v14 h14 => ?_))
  refine pt_d (pt_1 (fun n d => r_istoren (L' := [some (.ref 41), some (.int x1), some (.int x2), some (.int v14), none]) gx1_39 rfl rfl) ?_)
  refine pt_d (pt_1 (fun n d => r_aloadn gx1_40 rfl) ?_)
  refine pt_d (pt_getR gx1_41 S tr_41_3 ?_)
  refine pt_d (pt_1 (fun n d => r_iloadn gx1_44 rfl) ?_)
  refine pt_d (pt_aaldB (N' := 10) gx1_45 S tl_42 z1 (fun p16 r16 k16 => ?_) (fun q16 p16 r16 k16 => ?_))
  · have H := H.1 p16 r16 k16
    refine pt_d (pt_1 (fun n d => r_astoreN (L' := [some (.ref 41), some (.int x1), some (.int x2), some (.int v14), some (.null)]) gx1_46 rfl rfl) ?_)
    refine pt_d (pt_1 (fun n d => r_aloadN gx1_48 rfl) ?_)
    refine pt_d (pt_1 (fun n d => r_ifnonnull_n gx1_50) ?_)
    refine pt_d (pt_newO gx1_53 S (fun q17 h_17 S17 w17 => ?_))
    have H := H q17 h_17 S17 w17
    refine pt_d (pt_1 (fun n d => r_dup gx1_56 rfl) ?_)
    refine pt_d (pt_1 (fun n d => r_aloadn gx1_57 rfl) ?_)
    refine pt_d (pt_getR gx1_58 S17 tr_41_0 ?_)
    refine pt_d (pt_1 (fun n d => r_aloadn gx1_61 rfl) ?_)
    refine pt_d (pt_getR gx1_62 S17 tr_41_1 ?_)
    refine pt_d (pt_1 (fun n d => r_iloadn gx1_65 rfl) ?_)
    obtain ⟨pr20, H⟩ := H
    refine pt_d (pt_init (as := [.ref 1, .ref 16, .int x1]) (r := [.ref q17]) gx1_66 rfl (show zmt[96]? = some zM96 from rfl) rfl rfl rfl rfl (c_96 S17 z1 pr20) (kqN (fun h_20 P20 => ?_)))
    have S20 := P20.1
    have H := H h_20 P20
    show Pt _ _ _ 69 _ [.ref q17] _ _
    refine pt_d (pt_1 (fun n d => r_astore (L' := [some (.ref 41), some (.int x1), some (.int x2), some (.int v14), some (.ref q17)]) gx1_69 rfl rfl) ?_)
    refine pt_d (pt_1 (fun n d => r_aloadn gx1_71 rfl) ?_)
    refine pt_d (pt_getR gx1_72 S20 tr_41_3 ?_)
    refine pt_d (pt_1 (fun n d => r_iloadn gx1_75 rfl) ?_)
    refine pt_d (pt_1 (fun n d => r_aload gx1_76 rfl) ?_)
    refine pt_d (pt_aastO (N' := 10) gx1_78 S20 tl_42 z1 (fun h_22 S22 p22 r22 e22 w22 => ?_))
    have H := H h_22 S22 p22 r22 e22 w22
    refine pt_d (pt_1 (fun n d => r_aload gx1_79 rfl) ?_)
    refine pt_d (pt_getI (B := 3) gx1_81 S22 (fun v23 h23 => ?_))
    refine pt_d (pt_1 (fun n d => r_iloadn gx1_84 rfl) ?_)
    refine pt_d (pt_icmp_ne gx1_85 h23 z2 (fun e24 => ?_) (fun e24 => ?_))
    · have H := H.1 e24
      refine pt_d (pt_1 (fun n d => r_aload gx1_97 rfl) ?_)
      refine pt_d (pt_1 (fun n d => r_iloadn gx1_99 rfl) ?_)
      refine pt_d (pt_1 (fun n d => r_iloadn gx1_100 rfl) ?_)
      obtain ⟨pr25, H⟩ := H
      refine pt_d (pt_virt (as := [.int x2, .int v14]) (r := []) gx1_101 rfl (show zmt[97]? = some zM97 from rfl) rfl rfl rfl rfl (c_97p S22 z2 h14 pr25) (kqN (fun h_25 P25 => ?_)))
      have S25 := P25.1
      have H := H h_25 P25
      show Pt _ _ _ 104 _ [] _ _
      refine pt_d (pt_1 (fun n d => r_aload gx1_104 rfl) ?_)
      exact pt_d (pt_aret gx1_106 ⟨_, rfl, H⟩)
    · have H := H.2 e24
      refine pt_d (pt_1 (fun n d => r_aload gx1_88 rfl) ?_)
      refine pt_d (pt_getI (B := 4) gx1_90 S22 (fun v26 h26 => ?_))
      refine pt_d (pt_1 (fun n d => r_iloadn gx1_93 rfl) ?_)
      refine pt_d (pt_icmp_eq gx1_94 h26 h14 (fun e27 => ?_) (fun e27 => ?_))
      · have H := H.1 e27
        refine pt_d (pt_1 (fun n d => r_aload gx1_104 rfl) ?_)
        exact pt_d (pt_aret gx1_106 ⟨_, rfl, H⟩)
      · have H := H.2 e27
        refine pt_d (pt_1 (fun n d => r_aload gx1_97 rfl) ?_)
        refine pt_d (pt_1 (fun n d => r_iloadn gx1_99 rfl) ?_)
        refine pt_d (pt_1 (fun n d => r_iloadn gx1_100 rfl) ?_)
        obtain ⟨pr28, H⟩ := H
        refine pt_d (pt_virt (as := [.int x2, .int v14]) (r := []) gx1_101 rfl (show zmt[97]? = some zM97 from rfl) rfl rfl rfl rfl (c_97p S22 z2 h14 pr28) (kqN (fun h_28 P28 => ?_)))
        have S28 := P28.1
        have H := H h_28 P28
        show Pt _ _ _ 104 _ [] _ _
        refine pt_d (pt_1 (fun n d => r_aload gx1_104 rfl) ?_)
        exact pt_d (pt_aret gx1_106 ⟨_, rfl, H⟩)
  · have H := H.2 q16 p16 r16 k16
    refine pt_d (pt_1 (fun n d => r_astore (L' := [some (.ref 41), some (.int x1), some (.int x2), some (.int v14), some (.ref q16)]) gx1_46 rfl rfl) ?_)
    refine pt_d (pt_1 (fun n d => r_aload gx1_48 rfl) ?_)
    refine pt_d (pt_1 (fun n d => r_ifnonnull_r gx1_50) ?_)
    refine pt_d (pt_1 (fun n d => r_aload gx1_79 rfl) ?_)
    refine pt_d (pt_getI (B := 3) gx1_81 S (fun v29 h29 => ?_))
    refine pt_d (pt_1 (fun n d => r_iloadn gx1_84 rfl) ?_)
    refine pt_d (pt_icmp_ne gx1_85 h29 z2 (fun e30 => ?_) (fun e30 => ?_))
    · have H := H.1 e30
      refine pt_d (pt_1 (fun n d => r_aload gx1_97 rfl) ?_)
      refine pt_d (pt_1 (fun n d => r_iloadn gx1_99 rfl) ?_)
      refine pt_d (pt_1 (fun n d => r_iloadn gx1_100 rfl) ?_)
      obtain ⟨pr31, H⟩ := H
      refine pt_d (pt_virt (as := [.int x2, .int v14]) (r := []) gx1_101 rfl (show zmt[97]? = some zM97 from rfl) rfl rfl rfl rfl (c_97p S z2 h14 pr31) (kqN (fun h_31 P31 => ?_)))
      have S31 := P31.1
      have H := H h_31 P31
      show Pt _ _ _ 104 _ [] _ _
      refine pt_d (pt_1 (fun n d => r_aload gx1_104 rfl) ?_)
      exact pt_d (pt_aret gx1_106 ⟨_, rfl, H⟩)
    · have H := H.2 e30
      refine pt_d (pt_1 (fun n d => r_aload gx1_88 rfl) ?_)
      refine pt_d (pt_getI (B := 4) gx1_90 S (fun v32 h32 => ?_))
      refine pt_d (pt_1 (fun n d => r_iloadn gx1_93 rfl) ?_)
      refine pt_d (pt_icmp_eq gx1_94 h32 h14 (fun e33 => ?_) (fun e33 => ?_))
      · have H := H.1 e33
        refine pt_d (pt_1 (fun n d => r_aload gx1_104 rfl) ?_)
        exact pt_d (pt_aret gx1_106 ⟨_, rfl, H⟩)
      · have H := H.2 e33
        refine pt_d (pt_1 (fun n d => r_aload gx1_97 rfl) ?_)
        refine pt_d (pt_1 (fun n d => r_iloadn gx1_99 rfl) ?_)
        refine pt_d (pt_1 (fun n d => r_iloadn gx1_100 rfl) ?_)
        obtain ⟨pr34, H⟩ := H
        refine pt_d (pt_virt (as := [.int x2, .int v14]) (r := []) gx1_101 rfl (show zmt[97]? = some zM97 from rfl) rfl rfl rfl rfl (c_97p S z2 h14 pr34) (kqN (fun h_34 P34 => ?_)))
        have S34 := P34.1
        have H := H h_34 P34
        show Pt _ _ _ 104 _ [] _ _
        refine pt_d (pt_1 (fun n d => r_aload gx1_104 rfl) ?_)
        exact pt_d (pt_aret gx1_106 ⟨_, rfl, H⟩)
theorem tl_145' : tkL 145 1 60 = true := by decide +kernel
theorem wS_len {h : aH} (S : wS h) : 146 ≤ h.1.length := by
  have e := S.2.2 145 1 60 tl_145'
  unfold tyA at e
  split at e
  · rename_i w
    obtain ⟨l, -⟩ := List.getElem?_eq_some_iff.mp w
    omega
  · cases e
def stm (V : vS) : Int := w32 (w32 (w32 (w32 (V 1 1 + V 1 5) + V 16 1) + V 16 2) + V 16 3)
def pb (V : vS) : Prop := ((0 ≤ V 1 1 ∧ V 1 1 ≤ 150) ∧ 0 ≤ V 1 5 ∧ V 1 5 ≤ 150) ∧ (0 ≤ V 16 1 ∧ V 16 1 ≤ 300) ∧ (∀ p, 0 ≤ p → p < V 16 1 → 0 ≤ V 18 (V 21 p) ∧ V 18 (V 21 p) < 150) ∧ (∀ p p', 0 ≤ p → p ≤ p' → p' < V 16 1 → V 17 (V 21 p) ≤ V 17 (V 21 p')) ∧ (∀ j, 0 ≤ V 8 j ∧ V 8 j < 2147483648) ∧ (0 ≤ V 16 2 ∧ V 16 2 ≤ 40) ∧ 0 ≤ V 16 3 ∧ V 16 3 ≤ 200
def slk (V : vS) (q : Nat) : Prop := V q 0 = ((1 : Nat) : Int) ∧ V q 1 = ((16 : Nat) : Int) ∧ V q 6 = ((q + 1 : Nat) : Int) ∧ sfl V q
def skd (h : aH) (q : Nat) : Prop := (∃ t y, h.1[q + 2]? = some (.inl (t, 300, y))) ∧ (∃ t y, h.1[q + 5]? = some (.inl (t, 150, y))) ∧ (∃ t y, h.1[q + 6]? = some (.inl (t, 150, y))) ∧ (∃ t y, h.1[q + 7]? = some (.inl (t, 150, y)))
theorem skd_k {h h' : aH} {q : Nat} (K : hk h h') (D : skd h q) : skd h' q := ⟨kd_k K D.1, kd_k K D.2.1, kd_k K D.2.2.1, kd_k K D.2.2.2⟩
theorem pre97_of {h : aH} {q : Nat} (a : slk (vw h) q) (b : skd h q) (c : pb (vw h)) : pre97 h q := ⟨a, b, c.2⟩
theorem pbK_c {V W : vS} (P : pb V) (h : ∀ (c : Nat) j, c < 33 → W c j = V c j) : pb W := by
  unfold pb at P ⊢
  simp only [h 1 _ (by decide), h 16 _ (by decide), h 18 _ (by decide), h 21 _ (by decide), h 17 _ (by decide), h 8 _ (by decide)]
  exact P
theorem stm_v {V : vS} (P : pb V) : stm V = V 1 1 + V 1 5 + V 16 1 + V 16 2 + V 16 3 := by
  obtain ⟨a, b, -, -, -, d, e⟩ := P
  unfold stm
  rw [w32_id (z := V 1 1 + V 1 5) (by omega) (by omega), w32_id (z := V 1 1 + V 1 5 + V 16 1) (by omega) (by omega), w32_id (z := V 1 1 + V 1 5 + V 16 1 + V 16 2) (by omega) (by omega), w32_id (by omega) (by omega)]
theorem stm_0 {V : vS} (P : pb V) : stm V ≠ -1 := by
  rw [stm_v P]
  obtain ⟨a, b, -, -, -, d, e⟩ := P
  omega
theorem slk_c {V W : vS} {q : Nat} (P : slk V q) (h : ∀ j, j ≠ 3 → j ≠ 4 → j ≠ 5 → W q j = V q j) : slk W q := by
  unfold slk sfl at P ⊢
  rw [h 0 (by decide) (by decide) (by decide), h 1 (by decide) (by decide) (by decide), h 6 (by decide) (by decide) (by decide), h 7 (by decide) (by decide) (by decide), h 8 (by decide) (by decide) (by decide), h 9 (by decide) (by decide) (by decide), h 10 (by decide) (by decide) (by decide), h 11 (by decide) (by decide) (by decide), h 12 (by decide) (by decide) (by decide)]
  exact P
def p1 (h : aH) (y : Int) : Prop := pb (vw h) ∧ (0 ≤ y → y < 10 → ∀ q : Nat, (q : Int) = vw h 42 y → 146 ≤ q ∧ slk (vw h) q ∧ vw h q 2 = y ∧ skd h q)
def R1 (h : aH) (y k : Int) (q : Nat) (h' : aH) : Prop := (146 ≤ q ∧ hk h h' ∧ (0 ≤ y ∧ y < 10) ∧ skd h' q) ∧ ((vw h 42 y = (q : Int) ∧ vw h q 3 = k ∧ vw h q 4 = stm (vw h) ∧ h' = h) ∨ ∃ U : vS, R97 U q k (stm (vw h)) (vw h') ∧ (slk U q ∧ U q 2 = y ∧ U 42 y = (q : Int)) ∧ ((vw h 42 y = (q : Int) ∧ U = vw h) ∨ (vw h 42 y = -1 ∧ q = h.1.length ∧ ∀ (c : Nat) j, c ≠ q → (c ≠ 42 ∨ j ≠ y) → U c j = vw h c j)))
theorem c_1 {n : Nat} {X : aX} {h : aH} {x1 x2 : Int32} {a1 a2 : Int} (S : wS h) (z1 : x1.toInt = a1) (z2 : x2.toInt = a2) (hp : p1 h a1) : Pt n X zM1 0 [some (.ref 41), some (.int x1), some (.int x2), none, none] [] h (qR (fun q h' => wS h' ∧ R1 h a1 a2 q h')) := by
  refine pt_d (d1_0 S z1 z2 ⟨fun p0 p9 e0 q g1 S1 w1 => ?_, fun q p0 p9 e0 => ?_⟩)
  · have hq : 146 ≤ q := by
      have := wS_len S
      have := w1.1
      omega
    refine ⟨hq, fun g2 I g3 S3 _ _ e3 c3 => ?_⟩
    obtain ⟨S2, K2, -, f2, ⟨i0, i1, i2, i3, i4⟩, ⟨i6, i7, i8, i9, i10, i11, i12⟩, d2, d5, d6, d7⟩ := I
    have el : g1.1.length = q + 1 := by
      have := w1.1
      have := w1.2.2
      omega
    rw [el] at i6 i7 i8 i9 i10 i11 i12 d2 d5 d6 d7
    have eU : ∀ (c : Nat) j, c ≠ q → (c ≠ 42 ∨ j ≠ a1) → vw g3 c j = vw h c j := fun c j n z => by
      rw [e3]
      rcases z with z | z
      · rw [up_c z, f2 c j n, nwO_vw w1 n]
      · rw [up_j z, f2 c j n, nwO_vw w1 n]
    have eq : ∀ j, vw g3 q j = vw g2 q j := fun j => by rw [e3, up_c (by omega)]
    have B : pb (vw g3) := pbK_c hp.1 (fun c j z => eU c j (by omega) (Or.inl (by omega)))
    have L : slk (vw g3) q := ⟨(eq 0).trans i0, (eq 1).trans i1, (eq 6).trans i6, (eq 7).trans i7, (eq 8).trans i8, (eq 9).trans i9, (eq 10).trans i10, (eq 11).trans i11, (eq 12).trans i12⟩
    have D : skd g3 q := ⟨by rw [c3 _ (by omega)]; exact d2, by rw [c3 _ (by omega)]; exact d5, by rw [c3 _ (by omega)]; exact d6, by rw [c3 _ (by omega)]; exact d7⟩
    have K3 : hk h g3 := fun c t N y e => by
      obtain ⟨y', e'⟩ := hk_t (nwO_hk w1) K2 c t N y e
      by_cases z : c = 42
      · subst z
        have k1 := S2.2.2 42 4 10 (by decide +kernel)
        have k2 := S3.2.2 42 4 10 (by decide +kernel)
        unfold tyA at k1 k2
        rw [e'] at k1
        cases k1
        split at k2
        · rename_i w
          cases k2
          exact ⟨_, w⟩
        · cases k2
      · exact ⟨y', (c3 c z).trans e'⟩
    have e42 : vw g3 42 a1 = (q : Int) := by rw [e3, up_s]
    have es : ∀ g4 : aH, wS g4 ∧ hk g3 g4 ∧ R97 (vw g3) q a2 (stm (vw h)) (vw g4) → wS g4 ∧ R1 h a1 a2 q g4 := fun g4 R => ⟨R.1, ⟨hq, hk_t K3 R.2.1, ⟨p0, p9⟩, skd_k R.2.1 D⟩, Or.inr ⟨vw g3, R.2.2, ⟨L, (eq 2).trans i2, e42⟩, Or.inr ⟨e0, w1.1, eU⟩⟩⟩
    refine ⟨fun _ => ⟨⟨hq, pre97_of L D B⟩, fun g4 R => es g4 R⟩, fun e => ⟨fun e4 => ?_, fun _ => ⟨⟨hq, pre97_of L D B⟩, fun g4 R => es g4 R⟩⟩⟩
    exfalso
    rw [eq 4, i4] at e4
    have := stm_0 hp.1
    exact this e4.symm
  · obtain ⟨hq, L, y2, D⟩ := hp.2 p0 p9 q e0
    have es : ∀ g4 : aH, wS g4 ∧ hk h g4 ∧ R97 (vw h) q a2 (stm (vw h)) (vw g4) → wS g4 ∧ R1 h a1 a2 q g4 := fun g4 R => ⟨R.1, ⟨hq, R.2.1, ⟨p0, p9⟩, skd_k R.2.1 D⟩, Or.inr ⟨vw h, R.2.2, ⟨L, y2, e0.symm⟩, Or.inl ⟨e0.symm, rfl⟩⟩⟩
    exact ⟨fun _ => ⟨⟨hq, pre97_of L D hp.1⟩, fun g4 R => es g4 R⟩, fun e => ⟨fun e4 => ⟨S, ⟨hq, hk_r h, ⟨p0, p9⟩, D⟩, Or.inl ⟨e0.symm, e, e4, rfl⟩⟩, fun _ => ⟨⟨hq, pre97_of L D hp.1⟩, fun g4 R => es g4 R⟩⟩⟩


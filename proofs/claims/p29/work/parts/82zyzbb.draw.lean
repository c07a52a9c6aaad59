-- ===== the draw =====
theorem R1_o {h h' : aH} {y k : Int} {q : Nat} (R : R1 h y k q h') : ∀ (c : Nat) j, (c < q ∨ q + 7 < c) → (c ≠ 42 ∨ j ≠ y) → vw h' c j = vw h c j := fun c j z w => by
  obtain ⟨⟨hq, K, -, D⟩, R⟩ := R
  rcases R with ⟨-, -, -, rfl⟩ | ⟨U, R97', ⟨L, U2, U42⟩, F⟩
  · rfl
  · obtain ⟨sc, fr, v4⟩ := scK_b hq R97' U2
    rw [fr c j z]
    rcases F with ⟨-, rfl⟩ | ⟨-, -, f⟩
    · rfl
    · exact f c j (by omega) w
theorem R1_42 {h h' : aH} {y k : Int} {q : Nat} (R : R1 h y k q h') : vw h' 42 y = (q : Int) := by
  obtain ⟨⟨hq, K, -, D⟩, R⟩ := R
  rcases R with ⟨e, -, -, rfl⟩ | ⟨U, R97', ⟨L, U2, U42⟩, F⟩
  · exact e
  · obtain ⟨sc, fr, v4⟩ := scK_b hq R97' U2
    rw [fr 42 y (by omega)]
    exact U42
theorem IV_v {h h' : aH} (I : IV h) (K : hk h h') (e : ∀ (c : Nat) j, c ≠ 48 → c ≠ 53 → c ≠ 54 → vw h' c j = vw h c j) : IV h' :=
  IV_w I K (fun c j z => e c j (by omega) (by omega) (by omega)) (fun j => e 42 j (by decide) (by decide) (by decide)) (fun c j z => e c j (by omega) (by omega) (by omega)) (fun c j z z' => e c j (by omega) (by omega) (by omega)) ⟨e 72 _ (by decide) (by decide) (by decide), e 72 _ (by decide) (by decide) (by decide), e 72 _ (by decide) (by decide) (by decide), e 72 _ (by decide) (by decide) (by decide), e 72 _ (by decide) (by decide) (by decide)⟩
theorem R1_PR {h h' : aH} {y k : Int} {q : Nat} (I : IV h) (R : R1 h y k q h') : slk (vw h') q := by
  have hy := R.1.2.2.1
  exact (R1_k ⟨hy.1, by omega⟩ (p1_any I y) (by
    by_cases z : vw h 42 y = (q : Int)
    · exact Or.inl (hn_IV I q ⟨y, ⟨hy.1, by omega⟩, z.symm⟩)
    · exact Or.inr z) R).1
def P62 (V : vS) (q : Nat) (land b : Int) : Prop := (cFarm V b ∧ V 3 b = land) ∧ V (q + 7) b ≠ -1
def R62 (h : aH) (land y : Int) (h' : aH) : Prop := ∃ q g, R1 h y (vw h 1 0) q g ∧ (vw h' 48 12 = nQ (P62 (vw g) q land) (vw g 1 1).toNat ∧ IV h')

theorem d62_0 {n : Nat} {X : aX} {h : aH} {P : aH → Prop} {x1 x2 : Int32} {a1 a2 : Int} (S : wS h) (z1 : x1.toInt = a1) (z2 : x2.toInt = a2) (H : ((p1 h a2) ∧ ∀ (q4 : Nat) (h_4 : aH), (wS h_4 ∧ R1 h a2 (vw h 1 0) q4 h_4) → ∀ h_6 : aH, wS h_6 → vw h_6 = up (vw h_4) 48 12 0 → hk h_4 h_6 → (∀ (w4 : Int32), w4.toInt = 0 → Pt n X zM62 24 [some (.ref 48), some (.int x1), some (.int x2), some (.ref q4), some (.int w4)] [] h_6 (qN P)))) : Pt (n + 1) X zM62 0 [some (.ref 48), some (.int x1), some (.int x2), none, none] [] h (qN P) := by
  refine pt_1 (fun n d => r_aloadn gx62_0 rfl) ?_
  refine pt_d (pt_getR gx62_1 S tr_48_2 ?_)
  refine pt_d (pt_1 (fun n d => r_iloadn gx62_4 rfl) ?_)
  refine pt_d (pt_1 (fun n d => r_aloadn gx62_5 rfl) ?_)
  refine pt_d (pt_getR gx62_6 S tr_48_0 ?_)
  refine pt_d (pt_getI (B := 0) gx62_9 S (fun v3 h3 => ?_))
  obtain ⟨pr4, H⟩ := H
  refine pt_d (pt_virt (as := [.int x2, .int v3]) (r := []) gx62_12 rfl (show zmt[1]? = some zM1 from rfl) rfl rfl rfl rfl (c_1 S z2 h3 pr4) (kqR (fun q4 h_4 P4 => ?_)))
  have S4 := P4.1
  have H := H q4 h_4 P4
  show Pt _ _ _ 15 _ [.ref q4] _ _
  refine pt_d (pt_1 (fun n d => r_astoren (L' := [some (.ref 48), some (.int x1), some (.int x2), some (.ref q4), none]) gx62_15 rfl rfl) ?_)
  refine pt_d (pt_1 (fun n d => r_aloadn gx62_16 rfl) ?_)
  refine pt_d (pt_iconst gx62_17 (fun v5 h5 => ?_))
  refine pt_d (pt_putIh (B := 12) gx62_18 S4 h5 (fun h_6 S6 e6 K6 => ?_))
  refine pt_d (pt_iconst gx62_21 (fun v7 h7 => ?_))
  refine pt_d (pt_1 (fun n d => r_istore (L' := [some (.ref 48), some (.int x1), some (.int x2), some (.ref q4), some (.int v7)]) gx62_22 rfl rfl) ?_)
  have H := H h_6 S6 (by rw [e6]) K6
  exact H v7 h7
theorem d62_24 {n : Nat} {X : aX} {h : aH} {P : aH → Prop} {x1 x2 x4 : Int32} {a1 a2 a4 : Int} {q3 : Nat} (S : wS h) (z1 : x1.toInt = a1) (z2 : x2.toInt = a2) (z4 : x4.toInt = a4) (H : ((vw h 1 1 ≤ a4 → P h) ∧ (a4 < vw h 1 1 → ((¬ (cFarm (vw h) a4 ∧ (vw h) 3 a4 = a1) → (∀ (w4 : Int32), w4.toInt = w32 (a4 + 1) → Pt n X zM62 24 [some (.ref 48), some (.int x1), some (.int x2), some (.ref q3), some (.int w4)] [] h (qN P))) ∧ ((cFarm (vw h) a4 ∧ (vw h) 3 a4 = a1) → ((vw h) q3 12 = (((q3 + 7) : Nat) : Int) ∧ (0 ≤ a4 → ((vw h (q3 + 7) a4 = (-1) → (∀ (w4 : Int32), w4.toInt = w32 (a4 + 1) → Pt n X zM62 24 [some (.ref 48), some (.int x1), some (.int x2), some (.ref q3), some (.int w4)] [] h (qN P))) ∧ (vw h (q3 + 7) a4 ≠ (-1) → (0 ≤ vw h 48 12 → vw h 48 12 < 150 → ((a2 ≠ 0 → ∀ h_15 : aH, wS h_15 → vw h_15 = up (vw h) 53 (vw h 48 12) a4 → hk h h_15 → ((p1 h_15 (w32 (a2 - 1))) ∧ ∀ (q24 : Nat) (h_24 : aH), (wS h_24 ∧ R1 h_15 (w32 (a2 - 1)) (vw h 1 0) q24 h_24) → ((PR102 (vw h_24) q24) ∧ ∀ h_30 : aH, wS h_30 → vw h_30 = up (up (vw h_24) 54 (vw h 48 12) (cErr (vw h_24) q24 a4)) 48 12 (w32 ((vw h_24 48 12) + 1)) → hk h_24 h_30 → (∀ (w4 : Int32), w4.toInt = w32 (a4 + 1) → Pt n X zM62 24 [some (.ref 48), some (.int x1), some (.int x2), some (.ref q3), some (.int w4)] [] h_30 (qN P))))) ∧ (a2 = 0 → ∀ h_37 : aH, wS h_37 → vw h_37 = up (up (up (vw h) 53 (vw h 48 12) a4) 54 (vw h 48 12) 0) 48 12 (w32 ((vw h 48 12) + 1)) → hk h h_37 → (∀ (w4 : Int32), w4.toInt = w32 (a4 + 1) → Pt n X zM62 24 [some (.ref 48), some (.int x1), some (.int x2), some (.ref q3), some (.int w4)] [] h_37 (qN P)))))))))))))) : Pt (n + 1) X zM62 24 [some (.ref 48), some (.int x1), some (.int x2), some (.ref q3), some (.int x4)] [] h (qN P) := by
  refine pt_1 (fun n d => r_iload gx62_24 rfl) ?_
  refine pt_d (pt_1 (fun n d => r_aloadn gx62_26 rfl) ?_)
  refine pt_d (pt_getR gx62_27 S tr_48_0 ?_)
  refine pt_d (pt_getI (B := 1) gx62_30 S (fun v2 h2 => ?_))
  refine pt_d (pt_icmp_ge gx62_33 z4 h2 (fun e3 => ?_) (fun e3 => ?_))
  · have H := H.1 e3
    exact pt_d (pt_vret gx62_126 ⟨rfl, H⟩)
  · have H := H.2 e3
    refine pt_d (pt_1 (fun n d => r_aloadn gx62_36 rfl) ?_)
    refine pt_d (pt_getR gx62_37 S tr_48_0 ?_)
    refine pt_d (pt_1 (fun n d => r_iload gx62_40 rfl) ?_)
    refine pt_d (pt_1 (fun n d => r_iloadn gx62_42 rfl) ?_)
    refine pt_d (pt_virt (as := [.int x4, .int x1]) (r := []) gx62_43 rfl (show zmt[76]? = some zM76 from rfl) rfl rfl rfl rfl (c_76 S z4 z1) (kqP (fun v5 h5 => ?_)))
    show Pt _ _ _ 46 _ [.int v5] _ _
    refine pt_d (pt_ifB_eq gx62_46 h5 (fun e6 => ?_) (fun e6 => ?_))
    · have H := H.1 e6
      refine pt_d (pt_iinc (c := 1) gx62_120 rfl z4 (fun v7 h7 => ?_))
      show Pt _ _ _ _ [some (.ref 48), some (.int x1), some (.int x2), some (.ref q3), some (.int v7)] [] _ _
      refine pt_d (pt_1 (fun n d => r_goto gx62_123) ?_)
      exact H v7 h7
    · have H := H.2 e6
      refine pt_d (pt_1 (fun n d => r_aloadn gx62_49 rfl) ?_)
      obtain ⟨pr8, H⟩ := H
      refine pt_d (pt_getK (B := 12) gx62_50 S (pr8) ?_)
      refine pt_d (pt_1 (fun n d => r_iload gx62_53 rfl) ?_)
      refine pt_d (pt_ialdD gx62_55 z4 (fun v9 p9 h9 => ?_))
      have H := H p9
      refine pt_d (pt_iconst gx62_56 (fun v10 h10 => ?_))
      refine pt_d (pt_icmp_eq gx62_57 h9 h10 (fun e11 => ?_) (fun e11 => ?_))
      · have H := H.1 e11
        refine pt_d (pt_iinc (c := 1) gx62_120 rfl z4 (fun v12 h12 => ?_))
        show Pt _ _ _ _ [some (.ref 48), some (.int x1), some (.int x2), some (.ref q3), some (.int v12)] [] _ _
        refine pt_d (pt_1 (fun n d => r_goto gx62_123) ?_)
        exact H v12 h12
      · have H := H.2 e11
        refine pt_d (pt_1 (fun n d => r_aloadn gx62_60 rfl) ?_)
        refine pt_d (pt_getR gx62_61 S tr_48_10 ?_)
        refine pt_d (pt_1 (fun n d => r_aloadn gx62_64 rfl) ?_)
        refine pt_d (pt_getI (B := 12) gx62_65 S (fun v14 h14 => ?_))
        refine pt_d (pt_1 (fun n d => r_iload gx62_68 rfl) ?_)
        refine pt_d (pt_iasth (N' := 150) gx62_70 S tl_53 h14 z4 (fun h_15 S15 p15 q15 e15 K15 => ?_))
        have H := H p15 q15
        refine pt_d (pt_1 (fun n d => r_aloadn gx62_71 rfl) ?_)
        refine pt_d (pt_getR gx62_72 S15 tr_48_11 ?_)
        refine pt_d (pt_1 (fun n d => r_aloadn gx62_75 rfl) ?_)
        refine pt_d (pt_getI (B := 12) gx62_76 S15 (fun v17 h17 => ?_))
        have h17 : v17.toInt = vw h 48 12 := by rw [h17, e15, up_c (by decide)]
        refine pt_d (pt_1 (fun n d => r_iloadn gx62_79 rfl) ?_)
        refine pt_d (pt_if_ne gx62_80 z2 (fun e18 => ?_) (fun e18 => ?_))
        · have H := H.1 e18
          refine pt_d (pt_1 (fun n d => r_aloadn gx62_87 rfl) ?_)
          refine pt_d (pt_getR gx62_88 S15 tr_48_2 ?_)
          refine pt_d (pt_1 (fun n d => r_iloadn gx62_91 rfl) ?_)
          refine pt_d (pt_iconst gx62_92 (fun v20 h20 => ?_))
          refine pt_d (pt_isub gx62_93 z2 h20 (fun v21 h21 => ?_))
          refine pt_d (pt_1 (fun n d => r_aloadn gx62_94 rfl) ?_)
          refine pt_d (pt_getR gx62_95 S15 tr_48_0 ?_)
          refine pt_d (pt_getI (B := 0) gx62_98 S15 (fun v23 h23 => ?_))
          have h23 : v23.toInt = vw h 1 0 := by rw [h23, e15, up_c (by decide)]
          have H := H h_15 S15 (by rw [e15]) K15
          obtain ⟨pr24, H⟩ := H
          refine pt_d (pt_virt (as := [.int v21, .int v23]) (r := [.int v17, .ref 54]) gx62_101 rfl (show zmt[1]? = some zM1 from rfl) rfl rfl rfl rfl (c_1 S15 h21 h23 pr24) (kqR (fun q24 h_24 P24 => ?_)))
          have S24 := P24.1
          have H := H q24 h_24 P24
          show Pt _ _ _ 104 _ [.ref q24, .int v17, .ref 54] _ _
          refine pt_d (pt_1 (fun n d => r_iload gx62_104 rfl) ?_)
          obtain ⟨pr25, H⟩ := H
          refine pt_d (pt_virt (as := [.int x4]) (r := [.int v17, .ref 54]) gx62_106 rfl (show zmt[102]? = some zM102 from rfl) rfl rfl rfl rfl (c_102 S24 z4 pr25) (kqP (fun v25 h25 => ?_)))
          show Pt _ _ _ 109 _ [.int v25, .int v17, .ref 54] _ _
          refine pt_d (pt_iasth (N' := 150) gx62_109 S24 tl_54 h17 h25 (fun h_26 S26 p26 q26 e26 K26 => ?_))
          refine pt_d (pt_1 (fun n d => r_aloadn gx62_110 rfl) ?_)
          refine pt_d (pt_1 (fun n d => r_dup gx62_111 rfl) ?_)
          refine pt_d (pt_getI (B := 12) gx62_112 S26 (fun v27 h27 => ?_))
          have h27 : v27.toInt = vw h_24 48 12 := by rw [h27, e26, up_c (by decide)]
          refine pt_d (pt_iconst gx62_115 (fun v28 h28 => ?_))
          refine pt_d (pt_iadd gx62_116 h27 h28 (fun v29 h29 => ?_))
          refine pt_d (pt_putIh (B := 12) gx62_117 S26 h29 (fun h_30 S30 e30 K30 => ?_))
          refine pt_d (pt_iinc (c := 1) gx62_120 rfl z4 (fun v31 h31 => ?_))
          show Pt _ _ _ _ [some (.ref 48), some (.int x1), some (.int x2), some (.ref q3), some (.int v31)] [] _ _
          refine pt_d (pt_1 (fun n d => r_goto gx62_123) ?_)
          have H := H h_30 S30 (by rw [e30, e26]) (hk_t K26 K30)
          exact H v31 h31
        · have H := H.2 e18
          refine pt_d (pt_iconst gx62_83 (fun v32 h32 => ?_))
          refine pt_d (pt_1 (fun n d => r_goto gx62_84) ?_)
          refine pt_d (pt_iasth (N' := 150) gx62_109 S15 tl_54 h17 h32 (fun h_33 S33 p33 q33 e33 K33 => ?_))
          refine pt_d (pt_1 (fun n d => r_aloadn gx62_110 rfl) ?_)
          refine pt_d (pt_1 (fun n d => r_dup gx62_111 rfl) ?_)
          refine pt_d (pt_getI (B := 12) gx62_112 S33 (fun v34 h34 => ?_))
          have h34 : v34.toInt = vw h 48 12 := by rw [h34, e33, up_c (by decide), e15, up_c (by decide)]
          refine pt_d (pt_iconst gx62_115 (fun v35 h35 => ?_))
          refine pt_d (pt_iadd gx62_116 h34 h35 (fun v36 h36 => ?_))
          refine pt_d (pt_putIh (B := 12) gx62_117 S33 h36 (fun h_37 S37 e37 K37 => ?_))
          refine pt_d (pt_iinc (c := 1) gx62_120 rfl z4 (fun v38 h38 => ?_))
          show Pt _ _ _ _ [some (.ref 48), some (.int x1), some (.int x2), some (.ref q3), some (.int v38)] [] _ _
          refine pt_d (pt_1 (fun n d => r_goto gx62_123) ?_)
          have H := H h_37 S37 (by rw [e37, e33, e15]) (hk_t (hk_t K15 K33) K37)
          exact H v38 h38
theorem l_62 {X : aX} {hb : aH} {q : Nat} {land y : Int} (hy : 0 ≤ y ∧ y ≤ 9) (hn : 0 ≤ vw hb 1 1 ∧ vw hb 1 1 ≤ 150) : ∀ (n : Nat) (h : aH) (x1 x2 x4 : Int32) (k : Nat), wS h → IV h → x1.toInt = land → x2.toInt = y → x4.toInt = (k : Int) → (k : Int) ≤ vw hb 1 1 → (∀ (c : Nat) j, c < 146 → c ≠ 42 → c ≠ 48 → c ≠ 53 → c ≠ 54 → vw h c j = vw hb c j) → vw h 42 y = (q : Int) → (∀ j, vw h (q + 7) j = vw hb (q + 7) j) → vw h 48 12 = nQ (P62 (vw hb) q land) k → Pt n X zM62 24 [some (.ref 48), some (.int x1), some (.int x2), some (.ref q), some (.int x4)] [] h (qN (fun h' => wS h' ∧ vw h' 48 12 = nQ (P62 (vw hb) q land) (vw hb 1 1).toNat ∧ IV h')) := by
  intro n
  induction n with
  | zero => intros; exact pt_z
  | succ n ih =>
    intro h x1 x2 x4 k S I h1 h2 h4 hk' F f42 f7 f12
    have n1 := F 1 1 (by decide) (by decide) (by decide) (by decide) (by decide)
    have cf : (cFarm (vw h) (k : Nat) ∧ vw h 3 (k : Nat) = land) ↔ (cFarm (vw hb) (k : Nat) ∧ vw hb 3 (k : Nat) = land) := by
      unfold cFarm cBody
      rw [n1, F 2 _ (by decide) (by decide) (by decide) (by decide) (by decide), F 3 _ (by decide) (by decide) (by decide) (by decide) (by decide)]
    have sl := (I.2.1 y hy.1 hy.2 q f42).2.1
    have hq := (I.2.1 y hy.1 hy.2 q f42).1
    have b := nQ_b (P62 (vw hb) q land) k
    have skip : (k : Int) < vw h 1 1 → ¬ P62 (vw hb) q land (k : Nat) → ∀ w4 : Int32, w4.toInt = w32 ((k : Int) + 1) → Pt n X zM62 24 [some (.ref 48), some (.int x1), some (.int x2), some (.ref q), some (.int w4)] [] h (qN (fun h' => wS h' ∧ vw h' 48 12 = nQ (P62 (vw hb) q land) (vw hb 1 1).toNat ∧ IV h')) := by
      intro e z w4 g
      replace g := w_1 g (by omega) (by omega)
      refine ih h x1 x2 w4 (k + 1) S I h1 h2 (by omega) (by omega) F f42 f7 ?_
      rw [nQ_f z, Int.add_zero]
      exact f12
    have go : (k : Int) < vw h 1 1 → P62 (vw hb) q land (k : Nat) → ∀ (g : aH) (w4 : Int32), wS g → IV g → (∀ (c : Nat) j, c < 146 → c ≠ 42 → c ≠ 48 → c ≠ 53 → c ≠ 54 → vw g c j = vw h c j) → vw g 42 y = (q : Int) → (∀ j, vw g (q + 7) j = vw h (q + 7) j) → vw g 48 12 = w32 (vw h 48 12 + 1) → w4.toInt = w32 ((k : Int) + 1) → Pt n X zM62 24 [some (.ref 48), some (.int x1), some (.int x2), some (.ref q), some (.int w4)] [] g (qN (fun h' => wS h' ∧ vw h' 48 12 = nQ (P62 (vw hb) q land) (vw hb 1 1).toNat ∧ IV h')) := by
      intro e z g w4 S2 I2 F2 g42 g7 g12 g4
      replace g4 := w_1 g4 (by omega) (by omega)
      refine ih g x1 x2 w4 (k + 1) S2 I2 h1 h2 (by omega) (by omega) (fun c j a b d e f => (F2 c j a b d e f).trans (F c j a b d e f)) g42 (fun j => (g7 j).trans (f7 j)) ?_
      rw [nQ_t z, g12, f12, w32_id (by omega) (by omega)]
    refine d62_24 S h1 h2 h4 ⟨fun e => ⟨S, ?_, I⟩, fun e => ⟨fun z w4 g => skip e (fun w => z (cf.mpr w.1)) w4 g, fun z => ⟨sl.2.2.2.2.2.2.2.2, fun _ => ⟨fun z2 w4 g => skip e (fun w => w.2 (by rw [← f7]; exact z2)) w4 g, fun z2 p0 p1 => ?_⟩⟩⟩⟩
    · rw [f12, show (vw hb 1 1).toNat = k by omega]
    · have pk : P62 (vw hb) q land (k : Nat) := ⟨cf.mp z, by rw [← f7]; exact z2⟩
      refine ⟨fun y0 g1 S1 e1 K1 => ?_, fun y0 g S2 eg K w4 g4 => ?_⟩
      · have I1 : IV g1 := IV_ua I K1 e1 (by decide)
        refine ⟨p1_any I1 _, fun q2 g2 R => ?_⟩
        obtain ⟨S2, R⟩ := R
        have w : w32 (y - 1) = y - 1 := w32_id (by omega) (by omega)
        rw [w] at R
        have I2 := IV_1 I1 R
        have s2 := R1_PR I1 R
        have m42 : vw g2 42 y = (q : Int) := by
          rw [R1_o R 42 y (by have := R.1.1; omega) (Or.inr (by omega)), e1, up_c (by decide)]
          exact f42
        have ap := I2.2.2.1 y (y - 1) hy ⟨by omega, by omega⟩ (by omega) q q2 m42 (R1_42 R)
        refine ⟨⟨s2.2.2.2.2.2.2.1, s2.2.2.2.2.2.2.2.1⟩, fun g S3 eg K w4 g4 => ?_⟩
        refine go e pk g w4 S3 (IV_v I2 K (fun c j a _ d => by rw [eg, up_c a, up_c d])) (fun c j a b d e' f => ?_) ?_ (fun j => ?_) ?_ g4
        · rw [eg, up_c d, up_c f, R1_f R c j a b, e1, up_c e']
        · rw [eg, up_c (by decide), up_c (by decide)]
          exact m42
        · rw [eg, up_c (by omega), up_c (by omega), R1_o R (q + 7) j (by omega) (Or.inl (by omega)), e1, up_c (by omega)]
        · rw [eg, up_s, R1_f R 48 12 (by decide) (by decide), e1, up_c (by decide)]
      · refine go e pk g w4 S2 (IV_v I K (fun c j a b d => by rw [eg, up_c a, up_c d, up_c b])) (fun c j a b d e' f => by rw [eg, up_c d, up_c f, up_c e']) (by rw [eg, up_c (by decide), up_c (by decide), up_c (by decide)]; exact f42) (fun j => by rw [eg, up_c (by omega), up_c (by omega), up_c (by omega)]) (by rw [eg, up_s]) g4
theorem c_62 {n : Nat} {X : aX} {h : aH} {x1 x2 : Int32} {a1 a2 : Int} (S : wS h) (z1 : x1.toInt = a1) (z2 : x2.toInt = a2) (I : IV h) : Pt n X zM62 0 [some (.ref 48), some (.int x1), some (.int x2), none, none] [] h (qN (fun h' => wS h' ∧ R62 h a1 a2 h')) := by
  refine pt_d (d62_0 S z1 z2 ⟨p1_any I a2, fun q g R g2 S2 e2 K w4 g4 => ?_⟩)
  obtain ⟨S1, R⟩ := R
  have hy := R.1.2.2.1
  have I1 := IV_1 I R
  have I2 : IV g2 := IV_uf I1 K e2 (by decide)
  refine pt_q (l_62 (hb := g) (q := q) ⟨hy.1, by omega⟩ I1.1.1.1 _ g2 x1 x2 w4 0 S2 I2 z1 z2 g4 I1.1.1.1.1 (fun c j _ _ a _ _ => by rw [e2, up_c a]) (by rw [e2, up_c (by decide)]; exact R1_42 R) (fun j => by rw [e2, up_c (by have := R.1.1; omega)]) (by rw [e2, up_s]; rfl)) ?_
  rintro v h' ⟨ev, S', c, I'⟩
  exact ⟨ev, S', q, g, R, c, I'⟩

theorem d61_0 {n : Nat} {X : aX} {h : aH} {P : Int → aH → Prop} {x1 x2 x3 : Int32} {a1 a2 a3 : Int} (S : wS h) (z1 : x1.toInt = a1) (z2 : x2.toInt = a2) (z3 : x3.toInt = a3) (H : ((IV h) ∧ ∀ (h_1 : aH), (wS h_1 ∧ R62 h a1 a2 h_1) → ∀ h_9 : aH, wS h_9 → vw h_9 = up (vw h_1) 48 9 0 → hk h_1 h_9 → (∀ (w4 : Int32) (w5 : Int32) (w6 : Int32), w4.toInt = min a3 (vw h_1 48 12) → w5.toInt = iDiv (w32 ((min a3 (vw h_1 48 12)) + 1)) 2 → w6.toInt = 0 → Pt n X zM61 32 [some (.ref 48), some (.int x1), some (.int x2), some (.int x3), some (.int w4), some (.int w5), some (.int w6)] [] h_9 (qI P)))) : Pt (n + 1) X zM61 0 [some (.ref 48), some (.int x1), some (.int x2), some (.int x3), none, none, none] [] h (qI P) := by
  refine pt_1 (fun n d => r_aloadn gx61_0 rfl) ?_
  refine pt_d (pt_1 (fun n d => r_iloadn gx61_1 rfl) ?_)
  refine pt_d (pt_1 (fun n d => r_iloadn gx61_2 rfl) ?_)
  obtain ⟨pr1, H⟩ := H
  refine pt_d (pt_virt (as := [.int x1, .int x2]) (r := []) gx61_3 rfl (show zmt[62]? = some zM62 from rfl) rfl rfl rfl rfl (c_62 S z1 z2 pr1) (kqN (fun h_1 P1 => ?_)))
  have S1 := P1.1
  have H := H h_1 P1
  show Pt _ _ _ 6 _ [] _ _
  refine pt_d (pt_1 (fun n d => r_iloadn gx61_6 rfl) ?_)
  refine pt_d (pt_1 (fun n d => r_aloadn gx61_7 rfl) ?_)
  refine pt_d (pt_getI (B := 12) gx61_8 S1 (fun v2 h2 => ?_))
  refine pt_d (pt_min gx61_11 rfl z3 h2 (fun v3 h3 => ?_))
  refine pt_d (pt_1 (fun n d => r_istore (L' := [some (.ref 48), some (.int x1), some (.int x2), some (.int x3), some (.int v3), none, none]) gx61_14 rfl rfl) ?_)
  refine pt_d (pt_1 (fun n d => r_iload gx61_16 rfl) ?_)
  refine pt_d (pt_iconst gx61_18 (fun v4 h4 => ?_))
  refine pt_d (pt_iadd gx61_19 h3 h4 (fun v5 h5 => ?_))
  refine pt_d (pt_iconst gx61_20 (fun v6 h6 => ?_))
  refine pt_d (pt_idiv gx61_21 h5 h6 (fun v7 h7 => ?_))
  refine pt_d (pt_1 (fun n d => r_istore (L' := [some (.ref 48), some (.int x1), some (.int x2), some (.int x3), some (.int v3), some (.int v7), none]) gx61_22 rfl rfl) ?_)
  refine pt_d (pt_1 (fun n d => r_aloadn gx61_24 rfl) ?_)
  refine pt_d (pt_iconst gx61_25 (fun v8 h8 => ?_))
  refine pt_d (pt_putIh (B := 9) gx61_26 S1 h8 (fun h_9 S9 e9 K9 => ?_))
  refine pt_d (pt_iconst gx61_29 (fun v10 h10 => ?_))
  refine pt_d (pt_1 (fun n d => r_istore (L' := [some (.ref 48), some (.int x1), some (.int x2), some (.int x3), some (.int v3), some (.int v7), some (.int v10)]) gx61_30 rfl rfl) ?_)
  have H := H h_9 S9 (by rw [e9]) K9
  exact H v3 v7 v10 h3 h7 h10
theorem d61_32 {n : Nat} {X : aX} {h : aH} {P : Int → aH → Prop} {x1 x2 x3 x4 x5 x6 : Int32} {a1 a2 a3 a4 a5 a6 : Int} (S : wS h) (z1 : x1.toInt = a1) (z2 : x2.toInt = a2) (z3 : x3.toInt = a3) (z4 : x4.toInt = a4) (z5 : x5.toInt = a5) (z6 : x6.toInt = a6) (H : ((a4 ≤ a6 → P a4 h) ∧ (a6 < a4 → ((a5 ≤ a6 → ((IV h) ∧ ∀ (y3 : Int) (h_3 : aH), (wS h_3 ∧ hk h h_3 ∧ IV h_3) → ((IV h_3) ∧ ∀ (h_4 : aH), (wS h_4 ∧ hk h_3 h_4 ∧ IV h_4) → (∀ (w6 : Int32), w6.toInt = w32 (a6 + 1) → Pt n X zM61 32 [some (.ref 48), some (.int x1), some (.int x2), some (.int x3), some (.int x4), some (.int x5), some (.int w6)] [] h_4 (qI P))))) ∧ (a6 < a5 → ((IV h) ∧ ∀ (y6 : Int) (h_6 : aH), (wS h_6 ∧ hk h h_6 ∧ IV h_6) → ((IV h_6) ∧ ∀ (h_7 : aH), (wS h_7 ∧ hk h_6 h_7 ∧ IV h_7) → (∀ (w6 : Int32), w6.toInt = w32 (a6 + 1) → Pt n X zM61 32 [some (.ref 48), some (.int x1), some (.int x2), some (.int x3), some (.int x4), some (.int x5), some (.int w6)] [] h_7 (qI P))))))))) : Pt (n + 1) X zM61 32 [some (.ref 48), some (.int x1), some (.int x2), some (.int x3), some (.int x4), some (.int x5), some (.int x6)] [] h (qI P) := by
  refine pt_1 (fun n d => r_iload gx61_32 rfl) ?_
  refine pt_d (pt_1 (fun n d => r_iload gx61_34 rfl) ?_)
  refine pt_d (pt_icmp_ge gx61_36 z6 z4 (fun e1 => ?_) (fun e1 => ?_))
  · have H := H.1 e1
    refine pt_d (pt_1 (fun n d => r_iload gx61_67 rfl) ?_)
    exact pt_d (pt_iret gx61_69 ⟨_, rfl, by rw [z4]; exact H⟩)
  · have H := H.2 e1
    refine pt_d (pt_1 (fun n d => r_aloadn gx61_39 rfl) ?_)
    refine pt_d (pt_1 (fun n d => r_iload gx61_40 rfl) ?_)
    refine pt_d (pt_1 (fun n d => r_iload gx61_42 rfl) ?_)
    refine pt_d (pt_icmp_ge gx61_44 z6 z5 (fun e2 => ?_) (fun e2 => ?_))
    · have H := H.1 e2
      refine pt_d (pt_1 (fun n d => r_aloadn gx61_54 rfl) ?_)
      obtain ⟨pr3, H⟩ := H
      refine pt_d (pt_virt (as := []) (r := [.ref 48]) gx61_55 rfl (show zmt[64]? = some zM64 from rfl) rfl rfl rfl rfl (wk_64 S pr3) (kqI (fun v3 y3 h_3 h3 P3 => ?_)))
      have S3 := P3.1
      have H := H y3 h_3 P3
      show Pt _ _ _ 58 _ [.int v3, .ref 48] _ _
      obtain ⟨pr4, H⟩ := H
      refine pt_d (pt_virt (as := [.int v3]) (r := []) gx61_58 rfl (show zmt[65]? = some zM65 from rfl) rfl rfl rfl rfl (wk_65 S3 h3 pr4) (kqN (fun h_4 P4 => ?_)))
      have S4 := P4.1
      have H := H h_4 P4
      show Pt _ _ _ 61 _ [] _ _
      refine pt_d (pt_iinc (c := 1) gx61_61 rfl z6 (fun v5 h5 => ?_))
      show Pt _ _ _ _ [some (.ref 48), some (.int x1), some (.int x2), some (.int x3), some (.int x4), some (.int x5), some (.int v5)] [] _ _
      refine pt_d (pt_1 (fun n d => r_goto gx61_64) ?_)
      exact H v5 h5
    · have H := H.2 e2
      refine pt_d (pt_1 (fun n d => r_aloadn gx61_47 rfl) ?_)
      obtain ⟨pr6, H⟩ := H
      refine pt_d (pt_virt (as := []) (r := [.ref 48]) gx61_48 rfl (show zmt[63]? = some zM63 from rfl) rfl rfl rfl rfl (wk_63 S pr6) (kqI (fun v6 y6 h_6 h6 P6 => ?_)))
      have S6 := P6.1
      have H := H y6 h_6 P6
      show Pt _ _ _ 51 _ [.int v6, .ref 48] _ _
      refine pt_d (pt_1 (fun n d => r_goto gx61_51) ?_)
      obtain ⟨pr7, H⟩ := H
      refine pt_d (pt_virt (as := [.int v6]) (r := []) gx61_58 rfl (show zmt[65]? = some zM65 from rfl) rfl rfl rfl rfl (wk_65 S6 h6 pr7) (kqN (fun h_7 P7 => ?_)))
      have S7 := P7.1
      have H := H h_7 P7
      show Pt _ _ _ 61 _ [] _ _
      refine pt_d (pt_iinc (c := 1) gx61_61 rfl z6 (fun v8 h8 => ?_))
      show Pt _ _ _ _ [some (.ref 48), some (.int x1), some (.int x2), some (.int x3), some (.int x4), some (.int x5), some (.int v8)] [] _ _
      refine pt_d (pt_1 (fun n d => r_goto gx61_64) ?_)
      exact H v8 h8
theorem l_61 {X : aX} {m : Int} (hm : m ≤ 1000) : ∀ (n : Nat) (h : aH) (x1 x2 x3 x4 x5 x6 : Int32) (k : Nat), wS h → IV h → x4.toInt = m → x6.toInt = (k : Int) → (k = 0 ∨ (k : Int) ≤ m) → Pt n X zM61 32 [some (.ref 48), some (.int x1), some (.int x2), some (.int x3), some (.int x4), some (.int x5), some (.int x6)] [] h (qI (fun r h' => wS h' ∧ r = m)) := by
  intro n
  induction n with
  | zero => intros; exact pt_z
  | succ n ih =>
    intro h x1 x2 x3 x4 x5 x6 k S I h4 h6 hk'
    refine d61_32 S rfl rfl rfl h4 rfl h6 ⟨fun e => ⟨S, rfl⟩, fun e => ⟨fun _ => ⟨I, fun y3 g3 R3 => ⟨R3.2.2, fun g4 R4 w6 g6 => ?_⟩⟩, fun _ => ⟨I, fun y3 g3 R3 => ⟨R3.2.2, fun g4 R4 w6 g6 => ?_⟩⟩⟩⟩
    · replace g6 := w_1 g6 (by omega) (by omega)
      exact ih g4 x1 x2 x3 x4 x5 w6 (k + 1) R4.1 R4.2.2 h4 (by omega) (Or.inr (by omega))
    · replace g6 := w_1 g6 (by omega) (by omega)
      exact ih g4 x1 x2 x3 x4 x5 w6 (k + 1) R4.1 R4.2.2 h4 (by omega) (Or.inr (by omega))
theorem c_61 {n : Nat} {X : aX} {h : aH} {x1 x2 x3 : Int32} {a1 a2 a3 : Int} (S : wS h) (z1 : x1.toInt = a1) (z2 : x2.toInt = a2) (z3 : x3.toInt = a3) (hp : IV h ∧ a3 ≤ 1000) : Pt n X zM61 0 [some (.ref 48), some (.int x1), some (.int x2), some (.int x3), none, none, none] [] h (qI (fun r h' => wS h' ∧ ∃ g, R62 h a1 a2 g ∧ r = min a3 (vw g 48 12))) := by
  refine pt_d (d61_0 S z1 z2 z3 ⟨hp.1, fun g R g2 S2 e2 K w4 w5 w6 g4 g5 g6 => ?_⟩)
  obtain ⟨S1, R⟩ := R
  have I1 : IV g := R.choose_spec.choose_spec.2.2
  refine pt_q (l_61 (m := min a3 (vw g 48 12)) (by have := hp.2; omega) n g2 x1 x2 x3 w4 w5 w6 0 S2 (IV_uf I1 K e2 (by decide)) g4 g6 (Or.inl rfl)) ?_
  rintro v h' ⟨x, ev, S', r⟩
  exact ⟨x, ev, S', g, R, r⟩

theorem d178_0 {n : Nat} {X : aX} {h : aH} {P : Int → aH → Prop} {x1 x2 x3 : Int32} {a1 a2 a3 : Int} (S : wS h) (z1 : x1.toInt = a1) (z2 : x2.toInt = a2) (z3 : x3.toInt = a3) (H : ((¬ (0 ≤ a1 ∧ a1 ≤ 3) → P (-1) h) ∧ ((0 ≤ a1 ∧ a1 ≤ 3) → ((¬ (0 ≤ a2 ∧ a2 ≤ 9) → P (-1) h) ∧ ((0 ≤ a2 ∧ a2 ≤ 9) → (((1 ≤ a3 ∧ a3 ≤ 9) → ((IV h ∧ a3 ≤ 1000) ∧ ∀ (y12 : Int) (h_12 : aH), (wS h_12 ∧ ∃ g, R62 h a1 a2 g ∧ y12 = min a3 (vw g 48 12)) → P y12 h_12)) ∧ (¬ (1 ≤ a3 ∧ a3 ≤ 9) → P (-1) h))))))) : Pt (n + 1) X zM178 0 [some (.ref 0), some (.int x1), some (.int x2), some (.int x3)] [] h (qI P) := by
  refine pt_1 (fun n d => r_iloadn gx178_0 rfl) ?_
  refine pt_d (pt_stat (as := [.int x1]) (r := []) gx178_1 rfl (show zmt[140]? = some zM140 from rfl) rfl rfl rfl rfl (c_140 S z1) (kqP (fun v1 h1 => ?_)))
  show Pt _ _ _ 4 _ [.int v1] _ _
  refine pt_d (pt_ifB_eq gx178_4 h1 (fun e2 => ?_) (fun e2 => ?_))
  · have H := H.1 e2
    refine pt_d (pt_iconst gx178_24 (fun v3 h3 => ?_))
    exact pt_d (pt_iret gx178_25 ⟨_, rfl, by rw [h3]; exact H⟩)
  · have H := H.2 e2
    refine pt_d (pt_1 (fun n d => r_iloadn gx178_7 rfl) ?_)
    refine pt_d (pt_stat (as := [.int x2]) (r := []) gx178_8 rfl (show zmt[139]? = some zM139 from rfl) rfl rfl rfl rfl (c_139 S z2) (kqP (fun v4 h4 => ?_)))
    show Pt _ _ _ 11 _ [.int v4] _ _
    refine pt_d (pt_ifB_eq gx178_11 h4 (fun e5 => ?_) (fun e5 => ?_))
    · have H := H.1 e5
      refine pt_d (pt_iconst gx178_24 (fun v6 h6 => ?_))
      exact pt_d (pt_iret gx178_25 ⟨_, rfl, by rw [h6]; exact H⟩)
    · have H := H.2 e5
      refine pt_d (pt_1 (fun n d => r_iloadn gx178_14 rfl) ?_)
      refine pt_d (pt_iconst gx178_15 (fun v7 h7 => ?_))
      refine pt_d (pt_bipush gx178_16 (fun v8 h8 => ?_))
      refine pt_d (pt_stat (as := [.int x3, .int v7, .int v8]) (r := []) gx178_18 rfl (show zmt[137]? = some zM137 from rfl) rfl rfl rfl rfl (c_137 S z3 h7 h8) (kqP (fun v9 h9 => ?_)))
      show Pt _ _ _ 21 _ [.int v9] _ _
      refine pt_d (pt_ifB_ne gx178_21 h9 (fun e10 => ?_) (fun e10 => ?_))
      · have H := H.1 e10
        refine pt_d (pt_1 (fun n d => r_aloadn gx178_26 rfl) ?_)
        refine pt_d (pt_getR gx178_27 S tr_0_5 ?_)
        refine pt_d (pt_1 (fun n d => r_iloadn gx178_30 rfl) ?_)
        refine pt_d (pt_1 (fun n d => r_iloadn gx178_31 rfl) ?_)
        refine pt_d (pt_1 (fun n d => r_iloadn gx178_32 rfl) ?_)
        obtain ⟨pr12, H⟩ := H
        refine pt_d (pt_virt (as := [.int x1, .int x2, .int x3]) (r := []) gx178_33 rfl (show zmt[61]? = some zM61 from rfl) rfl rfl rfl rfl (c_61 S z1 z2 z3 pr12) (kqI (fun v12 y12 h_12 h12 P12 => ?_)))
        have S12 := P12.1
        have H := H y12 h_12 P12
        show Pt _ _ _ 36 _ [.int v12] _ _
        exact pt_d (pt_iret gx178_36 ⟨_, rfl, by rw [h12]; exact H⟩)
      · have H := H.2 e10
        refine pt_d (pt_iconst gx178_24 (fun v13 h13 => ?_))
        exact pt_d (pt_iret gx178_25 ⟨_, rfl, by rw [h13]; exact H⟩)
def okDr (l y n : Int) : Prop := (0 ≤ l ∧ l ≤ 3) ∧ (0 ≤ y ∧ y ≤ 9) ∧ 1 ≤ n ∧ n ≤ 9
def R178 (h : aH) (l y n r : Int) : Prop := (¬ okDr l y n ∧ r = -1) ∨ (okDr l y n ∧ ∃ g, R62 h l y g ∧ r = min n (vw g 48 12))
theorem c_178w {n : Nat} {X : aX} {h : aH} {x1 x2 x3 : Int32} {a1 a2 a3 : Int} (S : wS h) (z1 : x1.toInt = a1) (z2 : x2.toInt = a2) (z3 : x3.toInt = a3) (I : IV h) : Pt n X zM178 0 [some (.ref 0), some (.int x1), some (.int x2), some (.int x3)] [] h (qI (fun r h' => R178 h a1 a2 a3 r ∧ IV h')) := by
  have c : Pt n X zM178 0 [some (.ref 0), some (.int x1), some (.int x2), some (.int x3)] [] h (qI (fun r _ => R178 h a1 a2 a3 r)) :=
    pt_d (d178_0 S z1 z2 z3 ⟨fun e => Or.inl ⟨fun z => e z.1, rfl⟩, fun e1 => ⟨fun e => Or.inl ⟨fun z => e z.2.1, rfl⟩, fun e2 => ⟨fun e3 => ⟨⟨I, by omega⟩, fun r g R => Or.inr ⟨⟨e1, e2, e3⟩, R.2⟩⟩, fun e => Or.inl ⟨fun z => e z.2.2, rfl⟩⟩⟩⟩)
  refine pt_q (pt_and c (wk_178 S z1 z2 z3 I)) ?_
  rintro v h' ⟨⟨x, ev, r⟩, ⟨x', -, -, -, I'⟩⟩
  exact ⟨x, ev, r, I'⟩


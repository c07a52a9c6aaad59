-- ===== the rate of errors =====
def P66 (V : vS) (y b : Int) : Prop := cFarm V b ∧ ∃ c, (0 ≤ c ∧ c < V 16 3) ∧ (V 27 c = b ∧ V 29 c = y)
def E66 (V : vS) (q : Nat) (b : Int) : Prop := 2 < cErr V q b
def F66 (V : vS) (q : Nat) (y : Int) (k : Nat) (W : vS) : Prop := ((∀ (c : Nat) j, c ≠ 48 → W c j = V c j) ∧ ∀ j, j ≠ 13 → j ≠ 14 → j ≠ 15 → j ≠ 16 → W 48 j = V 48 j) ∧ W 48 13 = nQ (P66 V y) k ∧ W 48 14 = nQ (fun b => P66 V y b ∧ E66 V q b) k ∧ (nQ (P66 V y) k = 0 ∨ W 48 15 = min 8 (nQ (P66 V y) k) ∧ W 48 16 = jX (P66 V y) (E66 V q) k)
def J66 (V : vS) (q : Nat) (y : Int) (W : vS) : Prop := ((∀ (c : Nat) j, c ≠ 48 → W c j = V c j) ∧ ∀ j, j ≠ 13 → j ≠ 14 → j ≠ 15 → j ≠ 16 → W 48 j = V 48 j) ∧ W 48 13 = nQ (P66 V y) (V 1 1).toNat ∧ W 48 14 = nQ (fun b => P66 V y b ∧ E66 V q b) (V 1 1).toNat ∧ W 48 15 = min 8 (nQ (P66 V y) (V 1 1).toNat) ∧ W 48 16 = jX (P66 V y) (E66 V q) (V 1 1).toNat
theorem F66_n {V : vS} {q : Nat} {y : Int} {k : Nat} {W G W' : vS} (F : F66 V q y k W) (p : P66 V y (k : Nat)) (hk : k ≤ 150) (eg : G = up W 48 13 (w32 (W 48 13 + 1))) (a14 : W' 48 14 = w32 (W 48 14 + bI (E66 V q (k : Nat)))) (fr : ∀ (c : Nat) j, (c = 48 → j ≠ 14 ∧ j ≠ 15 ∧ j ≠ 16) → W' c j = G c j) (t : (8 < G 48 13 ∧ W' 48 15 = G 48 15 ∧ W' 48 16 = G 48 16) ∨ (G 48 13 ≤ 8 ∧ W' 48 15 = G 48 13 ∧ W' 48 16 = W' 48 14)) : F66 V q y (k + 1) W' := by
  obtain ⟨⟨f1, f2⟩, f13, f14, f5⟩ := F
  have b1 := nQ_b (P66 V y) k
  have b2 := nQ_b (fun b => P66 V y b ∧ E66 V q b) k
  have g13 : G 48 13 = nQ (P66 V y) (k + 1) := by rw [eg, up_s, f13, w32_id (by omega) (by omega), nQ_t p]
  have g15 : G 48 15 = W 48 15 := by rw [eg, up_j (by decide)]
  have g16 : G 48 16 = W 48 16 := by rw [eg, up_j (by decide)]
  have w14 : W' 48 14 = nQ (fun b => P66 V y b ∧ E66 V q b) (k + 1) := by
    by_cases e : E66 V q (k : Nat)
    · rw [a14, bI_t e, f14, w32_id (by omega) (by omega), nQ_t (P := fun b => P66 V y b ∧ E66 V q b) ⟨p, e⟩]
    · rw [a14, bI_f e, f14, w32_id (by omega) (by omega), nQ_f (P := fun b => P66 V y b ∧ E66 V q b) (fun z => e z.2)]
  refine ⟨⟨fun c j n => ?_, fun j n1 n2 n3 n4 => ?_⟩, ?_, w14, Or.inr ?_⟩
  · rw [fr c j (fun z => absurd z n), eg, up_c n]
    exact f1 c j n
  · rw [fr 48 j (fun _ => ⟨n2, n3, n4⟩), eg, up_j n1]
    exact f2 j n1 n2 n3 n4
  · rw [fr 48 13 (fun _ => ⟨by decide, by decide, by decide⟩), g13]
  · have pk := nQ_t p
    rcases t with ⟨gt, t5, t6⟩ | ⟨le, t5, t6⟩
    · rw [g13] at gt
      rcases f5 with z | ⟨z5, z6⟩
      · omega
      · rw [t5, g15, z5, t6, g16, z6, jX_s, pI_f (fun z => by omega)]
        exact ⟨by omega, by omega⟩
    · rw [g13] at le t5
      rw [t5, t6, w14, jX_w _ le]
      exact ⟨by omega, rfl⟩
theorem l_66 {X : aX} {V : vS} {q : Nat} {y : Int} (hn : 0 ≤ V 1 1 ∧ V 1 1 ≤ 150) (h16 : 0 ≤ V 16 3 ∧ V 16 3 ≤ 200) (hq : 146 ≤ q) (L : PR102 V q) : ∀ (n : Nat) (h : aH) (x1 x3 : Int32) (k : Nat), wS h → x1.toInt = y → x3.toInt = (k : Int) → (k : Int) ≤ V 1 1 → F66 V q y k (vw h) → Pt n X zM66 28 [some (.ref 48), some (.int x1), some (.ref q), some (.int x3)] [] h (qN (fun h' => wS h' ∧ J66 V q y (vw h'))) := by
  intro n
  induction n with
  | zero => intros; exact pt_z
  | succ n ih =>
    intro h x1 x3 k S h1 h3 hk F
    have F0 := F
    obtain ⟨⟨f1, f2⟩, f13, f14, f5⟩ := F0
    have cf : cFarm (vw h) (k : Nat) ↔ cFarm V (k : Nat) := by
      unfold cFarm cBody
      rw [f1 1 1 (by decide), f1 2 _ (by decide)]
    have ex : (∃ c, (0 ≤ c ∧ c < vw h 16 3) ∧ (vw h 27 c = (k : Nat) ∧ vw h 29 c = y)) ↔ ∃ c, (0 ≤ c ∧ c < V 16 3) ∧ (V 27 c = (k : Nat) ∧ V 29 c = y) := by
      simp only [f1 16 _ (by decide), f1 27 _ (by decide), f1 29 _ (by decide)]
    have n1 := f1 1 1 (by decide)
    have skip : (k : Int) < vw h 1 1 → ¬ P66 V y (k : Nat) → ∀ w3 : Int32, w3.toInt = w32 ((k : Int) + 1) → Pt n X zM66 28 [some (.ref 48), some (.int x1), some (.ref q), some (.int w3)] [] h (qN (fun h' => wS h' ∧ J66 V q y (vw h'))) := by
      intro e z w3 g
      replace g := w_1 g (by omega) (by omega)
      refine ih h x1 w3 (k + 1) S h1 (by omega) (by omega) ⟨⟨f1, f2⟩, ?_, ?_, ?_⟩
      · rw [nQ_f z, Int.add_zero]; exact f13
      · rw [nQ_f (P := fun b => P66 V y b ∧ E66 V q b) (fun w => z w.1), Int.add_zero]; exact f14
      · rw [nQ_f z, Int.add_zero, jX_s, pI_f (fun w => z w.1.1), Int.add_zero]; exact f5
    have go : (k : Int) < vw h 1 1 → P66 V y (k : Nat) → ∀ (g g2 : aH) (w3 : Int32), wS g2 → vw g = up (vw h) 48 13 (w32 (vw h 48 13 + 1)) → vw g2 48 14 = w32 (vw h 48 14 + bI (E66 V q (k : Nat))) → (∀ (c : Nat) j, (c = 48 → j ≠ 14 ∧ j ≠ 15 ∧ j ≠ 16) → vw g2 c j = vw g c j) → ((8 < vw g 48 13 ∧ vw g2 48 15 = vw g 48 15 ∧ vw g2 48 16 = vw g 48 16) ∨ (vw g 48 13 ≤ 8 ∧ vw g2 48 15 = vw g 48 13 ∧ vw g2 48 16 = vw g2 48 14)) → w3.toInt = w32 ((k : Int) + 1) → Pt n X zM66 28 [some (.ref 48), some (.int x1), some (.ref q), some (.int w3)] [] g2 (qN (fun h' => wS h' ∧ J66 V q y (vw h'))) := by
      intro e p g g2 w3 S2 eg a14 fr t g3
      replace g3 := w_1 g3 (by omega) (by omega)
      exact ih g2 x1 w3 (k + 1) S2 h1 (by omega) (by omega) (F66_n F p (by omega) eg a14 fr t)
    have kn : vw h 1 1 ≤ (k : Int) → (V 1 1).toNat = k := fun e => by omega
    refine d66_28 S h1 h3 ⟨fun e => ⟨fun z => ⟨S, ?_⟩, fun z g S2 eg => ⟨S2, ?_⟩⟩, fun e => ⟨fun z w3 g3 => skip e (fun w => z (cf.mpr w.1)) w3 g3, fun z => ⟨by rw [f1 16 3 (by decide)]; exact h16, fun z2 w3 g3 => skip e (fun w => z2 (ex.mpr w.2)) w3 g3, fun z2 g S2 eg => ?_⟩⟩⟩
    · unfold J66
      rw [kn e]
      rcases f5 with f5 | f5
      · rw [f13] at z
        exact absurd f5 z
      · exact ⟨⟨f1, f2⟩, f13, f14, f5⟩
    · unfold J66
      rw [kn e]
      rw [f13] at z
      have jb := jX_b (P := P66 V y) (E := E66 V q) k
      refine ⟨⟨fun c j nc => by rw [eg, up_c nc, up_c nc]; exact f1 c j nc, fun j a b c d => by rw [eg, up_j d, up_j c]; exact f2 j a b c d⟩, by rw [eg, up_j (by decide), up_j (by decide)]; exact f13, by rw [eg, up_j (by decide), up_j (by decide)]; exact f14, ?_, ?_⟩
      · rw [eg, up_j (by decide), up_s, z]
        rfl
      · rw [eg, up_s]
        omega
    · have p : P66 V y (k : Nat) := ⟨cf.mp z, ex.mp z2⟩
      have gc : ∀ (c : Nat) j, c ≠ 48 → vw g c j = V c j := fun c j nc => by rw [eg, up_c nc]; exact f1 c j nc
      have ce : cErr (vw g) q (k : Nat) = cErr V q (k : Nat) := by
        unfold cErr
        rw [gc (q + 5) _ (by omega), gc (q + 6) _ (by omega)]
      refine ⟨⟨by rw [gc q 10 (by omega)]; exact L.1, by rw [gc q 11 (by omega)]; exact L.2⟩, fun le => ?_, fun lt => ?_⟩
      · rw [ce] at le
        have nE : ¬ E66 V q (k : Nat) := fun w => by unfold E66 at w; omega
        refine ⟨fun gt g2 S3 e3 w3 g3 => go e p g g2 w3 S3 eg (by rw [e3, up_s, bI_f nE]) (fun c j nn => by rw [e3]; exact if_neg (fun w => (nn w.1).1 w.2)) (Or.inl ⟨gt, by rw [e3, up_j (by decide)], by rw [e3, up_j (by decide)]⟩) g3, fun gt g2 S3 e3 w3 g3 => go e p g g2 w3 S3 eg (by rw [e3, up_j (by decide), up_j (by decide), up_s, bI_f nE]) (fun c j nn => ?_) (Or.inr ⟨gt, by rw [e3, up_j (by decide), up_s], by rw [e3, up_s, up_j (by decide), up_j (by decide), up_s]⟩) g3⟩
        rw [e3]
        exact (if_neg (fun w => (nn w.1).2.2 w.2)).trans ((if_neg (fun w => (nn w.1).2.1 w.2)).trans (if_neg (fun w => (nn w.1).1 w.2)))
      · rw [ce] at lt
        have yE : E66 V q (k : Nat) := lt
        refine ⟨fun gt g2 S3 e3 w3 g3 => go e p g g2 w3 S3 eg (by rw [e3, up_s, bI_t yE]) (fun c j nn => by rw [e3]; exact if_neg (fun w => (nn w.1).1 w.2)) (Or.inl ⟨gt, by rw [e3, up_j (by decide)], by rw [e3, up_j (by decide)]⟩) g3, fun gt g2 S3 e3 w3 g3 => go e p g g2 w3 S3 eg (by rw [e3, up_j (by decide), up_j (by decide), up_s, bI_t yE]) (fun c j nn => ?_) (Or.inr ⟨gt, by rw [e3, up_j (by decide), up_s], by rw [e3, up_s, up_j (by decide), up_j (by decide), up_s]⟩) g3⟩
        rw [e3]
        exact (if_neg (fun w => (nn w.1).2.2 w.2)).trans ((if_neg (fun w => (nn w.1).2.1 w.2)).trans (if_neg (fun w => (nn w.1).1 w.2)))
theorem p1_any {h : aH} (I : IV h) (y : Int) : p1 h y := ⟨I.1, fun y0 y9 q e => by
  obtain ⟨a, b, c, d, -⟩ := I.2.1 y y0 (by omega) q e.symm
  exact ⟨a, b, c, d⟩⟩
def R66 (h : aH) (y : Int) (h' : aH) : Prop := ∃ q g, R1 h y (vw h 1 0) q g ∧ J66 (vw g) q y (vw h')
theorem c_66 {n : Nat} {X : aX} {h : aH} {x1 : Int32} {a1 : Int} (S : wS h) (z1 : x1.toInt = a1) (I : IV h) : Pt n X zM66 0 [some (.ref 48), some (.int x1), none, none] [] h (qN (fun h' => wS h' ∧ R66 h a1 h')) := by
  refine pt_d (d66_0 S z1 ⟨p1_any I a1, fun q g R g2 S2 e2 w3 g3 => ?_⟩)
  obtain ⟨S1, R⟩ := R
  have hy := R.1.2.2.1
  obtain ⟨sl, l5, B⟩ := R1_k ⟨hy.1, by omega⟩ (p1_any I a1) (by
    by_cases z : vw h 42 a1 = (q : Int)
    · exact Or.inl (hn_IV I q ⟨a1, ⟨hy.1, by omega⟩, z.symm⟩)
    · exact Or.inr z) R
  obtain ⟨-, -, -, -, -, -, s10, s11, -⟩ := sl
  refine pt_q (l_66 (V := vw g) B.1.1 B.2.2.2.2.2.2 R.1.1 ⟨s10, s11⟩ _ g2 x1 w3 0 S2 z1 g3 B.1.1.1 ⟨⟨fun c j nc => by rw [e2, up_c nc, up_c nc], fun j a b _ _ => by rw [e2, up_j b, up_j a]⟩, by rw [e2, up_j (by decide), up_s]; rfl, by rw [e2, up_s]; rfl, Or.inl rfl⟩) ?_
  rintro v h' ⟨ev, S', J⟩
  exact ⟨ev, S', q, g, R, J⟩

theorem d180_0 {n : Nat} {X : aX} {h : aH} {P : Int → aH → Prop} {x1 x2 x3 : Int32} {a1 a2 a3 : Int} (S : wS h) (z1 : x1.toInt = a1) (z2 : x2.toInt = a2) (z3 : x3.toInt = a3) (H : ((¬ (0 ≤ a1 ∧ a1 ≤ 9) → P (-1) h) ∧ ((0 ≤ a1 ∧ a1 ≤ 9) → (((0 ≤ a2 ∧ a2 ≤ 2) → ((a2 ≠ 2 → ((IV h) ∧ ∀ (h_11 : aH), (wS h_11 ∧ R66 h a1 h_11) → ((a2 = 0 → P (vw h_11 48 13) h_11) ∧ (a2 ≠ 0 → ((a2 = 1 → P (vw h_11 48 14) h_11) ∧ (a2 ≠ 1 → ((0 ≤ vw h_11 48 15 ∧ vw h_11 48 15 ≤ 8) ∧ P (uLk (cWy ((vw h_11) 48 15)) ((vw h_11) 48 15) ((vw h_11) 48 16) (iDiv a3 100) (iRem a3 100)) h_11))))))) ∧ (a2 = 2 → ((¬ (1 ≤ (iDiv a3 100) ∧ (iDiv a3 100) ≤ 99) → P (-1) h) ∧ ((1 ≤ (iDiv a3 100) ∧ (iDiv a3 100) ≤ 99) → (((1 ≤ (iRem a3 100) ∧ (iRem a3 100) ≤ 49) → ((IV h) ∧ ∀ (h_38 : aH), (wS h_38 ∧ R66 h a1 h_38) → ((a2 = 0 → P (vw h_38 48 13) h_38) ∧ (a2 ≠ 0 → ((a2 = 1 → P (vw h_38 48 14) h_38) ∧ (a2 ≠ 1 → ((0 ≤ vw h_38 48 15 ∧ vw h_38 48 15 ≤ 8) ∧ P (uLk (cWy ((vw h_38) 48 15)) ((vw h_38) 48 15) ((vw h_38) 48 16) (iDiv a3 100) (iRem a3 100)) h_38))))))) ∧ (¬ (1 ≤ (iRem a3 100) ∧ (iRem a3 100) ≤ 49) → P (-1) h))))))) ∧ (¬ (0 ≤ a2 ∧ a2 ≤ 2) → P (-1) h))))) : Pt (n + 1) X zM180 0 [some (.ref 0), some (.int x1), some (.int x2), some (.int x3)] [] h (qI P) := by
  refine pt_1 (fun n d => r_iloadn gx180_0 rfl) ?_
  refine pt_d (pt_stat (as := [.int x1]) (r := []) gx180_1 rfl (show zmt[139]? = some zM139 from rfl) rfl rfl rfl rfl (c_139 S z1) (kqP (fun v1 h1 => ?_)))
  show Pt _ _ _ 4 _ [.int v1] _ _
  refine pt_d (pt_ifB_eq gx180_4 h1 (fun e2 => ?_) (fun e2 => ?_))
  · have H := H.1 e2
    refine pt_d (pt_iconst gx180_16 (fun v3 h3 => ?_))
    exact pt_d (pt_iret gx180_17 ⟨_, rfl, by rw [h3]; exact H⟩)
  · have H := H.2 e2
    refine pt_d (pt_1 (fun n d => r_iloadn gx180_7 rfl) ?_)
    refine pt_d (pt_iconst gx180_8 (fun v4 h4 => ?_))
    refine pt_d (pt_iconst gx180_9 (fun v5 h5 => ?_))
    refine pt_d (pt_stat (as := [.int x2, .int v4, .int v5]) (r := []) gx180_10 rfl (show zmt[137]? = some zM137 from rfl) rfl rfl rfl rfl (c_137 S z2 h4 h5) (kqP (fun v6 h6 => ?_)))
    show Pt _ _ _ 13 _ [.int v6] _ _
    refine pt_d (pt_ifB_ne gx180_13 h6 (fun e7 => ?_) (fun e7 => ?_))
    · have H := H.1 e7
      refine pt_d (pt_1 (fun n d => r_iloadn gx180_18 rfl) ?_)
      refine pt_d (pt_iconst gx180_19 (fun v8 h8 => ?_))
      refine pt_d (pt_icmp_ne gx180_20 z2 h8 (fun e9 => ?_) (fun e9 => ?_))
      · have H := H.1 e9
        refine pt_d (pt_1 (fun n d => r_aloadn gx180_51 rfl) ?_)
        refine pt_d (pt_getR gx180_52 S tr_0_5 ?_)
        refine pt_d (pt_1 (fun n d => r_iloadn gx180_55 rfl) ?_)
        obtain ⟨pr11, H⟩ := H
        refine pt_d (pt_virt (as := [.int x1]) (r := []) gx180_56 rfl (show zmt[66]? = some zM66 from rfl) rfl rfl rfl rfl (c_66 S z1 pr11) (kqN (fun h_11 P11 => ?_)))
        have S11 := P11.1
        have H := H h_11 P11
        show Pt _ _ _ 59 _ [] _ _
        refine pt_d (pt_1 (fun n d => r_iloadn gx180_59 rfl) ?_)
        refine pt_d (pt_lsw gx180_60 ?_)
        refine pb_c (lo := 0) (p := 88) z2 (fun e12 => ?_) (fun e12 => ?_)
        · have H := H.1 e12
          refine pt_d (pt_1 (fun n d => r_aloadn gx180_88 rfl) ?_)
          refine pt_d (pt_getR gx180_89 S11 tr_0_5 ?_)
          refine pt_d (pt_getI (B := 13) gx180_92 S11 (fun v14 h14 => ?_))
          exact pt_d (pt_iret gx180_95 ⟨_, rfl, by rw [h14]; exact H⟩)
        have H := H.2 e12
        refine pb_c (lo := 1) (p := 96) z2 (fun e15 => ?_) (fun e15 => ?_)
        · have H := H.1 e15
          refine pt_d (pt_1 (fun n d => r_aloadn gx180_96 rfl) ?_)
          refine pt_d (pt_getR gx180_97 S11 tr_0_5 ?_)
          refine pt_d (pt_getI (B := 14) gx180_100 S11 (fun v17 h17 => ?_))
          exact pt_d (pt_iret gx180_103 ⟨_, rfl, by rw [h17]; exact H⟩)
        have H := H.2 e15
        refine pb_0 (p := 104) ?_
        refine pt_d (pt_1 (fun n d => r_aloadn gx180_104 rfl) ?_)
        refine pt_d (pt_getR gx180_105 S11 tr_0_5 ?_)
        refine pt_d (pt_1 (fun n d => r_iloadn gx180_108 rfl) ?_)
        refine pt_d (pt_bipush gx180_109 (fun v19 h19 => ?_))
        refine pt_d (pt_idiv gx180_111 z3 h19 (fun v20 h20 => ?_))
        refine pt_d (pt_1 (fun n d => r_iloadn gx180_112 rfl) ?_)
        refine pt_d (pt_bipush gx180_113 (fun v21 h21 => ?_))
        refine pt_d (pt_irem gx180_115 z3 h21 (fun v22 h22 => ?_))
        obtain ⟨pr23, H⟩ := H
        refine pt_d (pt_virt (as := [.int v20, .int v22]) (r := []) gx180_116 rfl (show zmt[67]? = some zM67 from rfl) rfl rfl rfl rfl (c_67 S11 h20 h22 pr23) (kqP (fun v23 h23 => ?_)))
        show Pt _ _ _ 119 _ [.int v23] _ _
        exact pt_d (pt_iret gx180_119 ⟨_, rfl, by rw [h23]; exact H⟩)
      · have H := H.2 e9
        refine pt_d (pt_1 (fun n d => r_iloadn gx180_23 rfl) ?_)
        refine pt_d (pt_bipush gx180_24 (fun v24 h24 => ?_))
        refine pt_d (pt_idiv gx180_26 z3 h24 (fun v25 h25 => ?_))
        refine pt_d (pt_iconst gx180_27 (fun v26 h26 => ?_))
        refine pt_d (pt_bipush gx180_28 (fun v27 h27 => ?_))
        refine pt_d (pt_stat (as := [.int v25, .int v26, .int v27]) (r := []) gx180_30 rfl (show zmt[137]? = some zM137 from rfl) rfl rfl rfl rfl (c_137 S h25 h26 h27) (kqP (fun v28 h28 => ?_)))
        show Pt _ _ _ 33 _ [.int v28] _ _
        refine pt_d (pt_ifB_eq gx180_33 h28 (fun e29 => ?_) (fun e29 => ?_))
        · have H := H.1 e29
          refine pt_d (pt_iconst gx180_49 (fun v30 h30 => ?_))
          exact pt_d (pt_iret gx180_50 ⟨_, rfl, by rw [h30]; exact H⟩)
        · have H := H.2 e29
          refine pt_d (pt_1 (fun n d => r_iloadn gx180_36 rfl) ?_)
          refine pt_d (pt_bipush gx180_37 (fun v31 h31 => ?_))
          refine pt_d (pt_irem gx180_39 z3 h31 (fun v32 h32 => ?_))
          refine pt_d (pt_iconst gx180_40 (fun v33 h33 => ?_))
          refine pt_d (pt_bipush gx180_41 (fun v34 h34 => ?_))
          refine pt_d (pt_stat (as := [.int v32, .int v33, .int v34]) (r := []) gx180_43 rfl (show zmt[137]? = some zM137 from rfl) rfl rfl rfl rfl (c_137 S h32 h33 h34) (kqP (fun v35 h35 => ?_)))
          show Pt _ _ _ 46 _ [.int v35] _ _
          refine pt_d (pt_ifB_ne gx180_46 h35 (fun e36 => ?_) (fun e36 => ?_))
          · have H := H.1 e36
            refine pt_d (pt_1 (fun n d => r_aloadn gx180_51 rfl) ?_)
            refine pt_d (pt_getR gx180_52 S tr_0_5 ?_)
            refine pt_d (pt_1 (fun n d => r_iloadn gx180_55 rfl) ?_)
            obtain ⟨pr38, H⟩ := H
            refine pt_d (pt_virt (as := [.int x1]) (r := []) gx180_56 rfl (show zmt[66]? = some zM66 from rfl) rfl rfl rfl rfl (c_66 S z1 pr38) (kqN (fun h_38 P38 => ?_)))
            have S38 := P38.1
            have H := H h_38 P38
            show Pt _ _ _ 59 _ [] _ _
            refine pt_d (pt_1 (fun n d => r_iloadn gx180_59 rfl) ?_)
            refine pt_d (pt_lsw gx180_60 ?_)
            refine pb_c (lo := 0) (p := 88) z2 (fun e39 => ?_) (fun e39 => ?_)
            · have H := H.1 e39
              refine pt_d (pt_1 (fun n d => r_aloadn gx180_88 rfl) ?_)
              refine pt_d (pt_getR gx180_89 S38 tr_0_5 ?_)
              refine pt_d (pt_getI (B := 13) gx180_92 S38 (fun v41 h41 => ?_))
              exact pt_d (pt_iret gx180_95 ⟨_, rfl, by rw [h41]; exact H⟩)
            have H := H.2 e39
            refine pb_c (lo := 1) (p := 96) z2 (fun e42 => ?_) (fun e42 => ?_)
            · have H := H.1 e42
              refine pt_d (pt_1 (fun n d => r_aloadn gx180_96 rfl) ?_)
              refine pt_d (pt_getR gx180_97 S38 tr_0_5 ?_)
              refine pt_d (pt_getI (B := 14) gx180_100 S38 (fun v44 h44 => ?_))
              exact pt_d (pt_iret gx180_103 ⟨_, rfl, by rw [h44]; exact H⟩)
            have H := H.2 e42
            refine pb_0 (p := 104) ?_
            refine pt_d (pt_1 (fun n d => r_aloadn gx180_104 rfl) ?_)
            refine pt_d (pt_getR gx180_105 S38 tr_0_5 ?_)
            refine pt_d (pt_1 (fun n d => r_iloadn gx180_108 rfl) ?_)
            refine pt_d (pt_bipush gx180_109 (fun v46 h46 => ?_))
            refine pt_d (pt_idiv gx180_111 z3 h46 (fun v47 h47 => ?_))
            refine pt_d (pt_1 (fun n d => r_iloadn gx180_112 rfl) ?_)
            refine pt_d (pt_bipush gx180_113 (fun v48 h48 => ?_))
            refine pt_d (pt_irem gx180_115 z3 h48 (fun v49 h49 => ?_))
            obtain ⟨pr50, H⟩ := H
            refine pt_d (pt_virt (as := [.int v47, .int v49]) (r := []) gx180_116 rfl (show zmt[67]? = some zM67 from rfl) rfl rfl rfl rfl (c_67 S38 h47 h49 pr50) (kqP (fun v50 h50 => ?_)))
            show Pt _ _ _ 119 _ [.int v50] _ _
            exact pt_d (pt_iret gx180_119 ⟨_, rfl, by rw [h50]; exact H⟩)
          · have H := H.2 e36
            refine pt_d (pt_iconst gx180_49 (fun v51 h51 => ?_))
            exact pt_d (pt_iret gx180_50 ⟨_, rfl, by rw [h51]; exact H⟩)
    · have H := H.2 e7
      refine pt_d (pt_iconst gx180_16 (fun v52 h52 => ?_))
      exact pt_d (pt_iret gx180_17 ⟨_, rfl, by rw [h52]; exact H⟩)
theorem d298_0 {n : Nat} {X : aX} {h : aH} {P : Int → aH → Prop} {x1 x2 x3 : Int32} {a1 a2 a3 : Int} (S : wS h) (z1 : x1.toInt = a1) (z2 : x2.toInt = a2) (z3 : x3.toInt = a3) (H : ((¬ (0 ≤ a1 ∧ a1 ≤ 9) → P (-1) h) ∧ ((0 ≤ a1 ∧ a1 ≤ 9) → ((¬ (0 ≤ a2 ∧ a2 ≤ 2) → P (-1) h) ∧ ((0 ≤ a2 ∧ a2 ≤ 2) → ((a2 ≠ 2 → ((q239 (vw h)) ∧ ∀ (h_12 : aH), (wS h_12 ∧ R239 (vw h) (vw h 72 1) (vw h_12)) → (∀ (w4 : Int32) (w5 : Int32) (w6 : Int32) (w7 : Int32) (w8 : Int32) (u9_ : Option Value), w4.toInt = 0 → w5.toInt = 0 → w6.toInt = 0 → w7.toInt = 0 → w8.toInt = 0 → Pt n X zM298 71 [some (.ref 72), some (.int x1), some (.int x2), some (.int x3), some (.int w4), some (.int w5), some (.int w6), some (.int w7), some (.int w8), u9_] [] h_12 (qI P)))) ∧ (a2 = 2 → ((¬ (100 ≤ a3 ∧ a3 ≤ 9949) → P (-1) h) ∧ ((100 ≤ a3 ∧ a3 ≤ 9949) → (((1 ≤ (iRem a3 100) ∧ (iRem a3 100) ≤ 49) → ((q239 (vw h)) ∧ ∀ (h_30 : aH), (wS h_30 ∧ R239 (vw h) (vw h 72 1) (vw h_30)) → (∀ (w4 : Int32) (w5 : Int32) (w6 : Int32) (w7 : Int32) (w8 : Int32) (u9_ : Option Value), w4.toInt = 0 → w5.toInt = 0 → w6.toInt = 0 → w7.toInt = 0 → w8.toInt = 0 → Pt n X zM298 71 [some (.ref 72), some (.int x1), some (.int x2), some (.int x3), some (.int w4), some (.int w5), some (.int w6), some (.int w7), some (.int w8), u9_] [] h_30 (qI P)))) ∧ (¬ (1 ≤ (iRem a3 100) ∧ (iRem a3 100) ≤ 49) → P (-1) h))))))))))) : Pt (n + 1) X zM298 0 [some (.ref 72), some (.int x1), some (.int x2), some (.int x3), none, none, none, none, none, none] [] h (qI P) := by
  refine pt_1 (fun n d => r_iloadn gx298_0 rfl) ?_
  refine pt_d (pt_stat (as := [.int x1]) (r := []) gx298_1 rfl (show zmt[198]? = some zM198 from rfl) rfl rfl rfl rfl (c_198 S z1) (kqP (fun v1 h1 => ?_)))
  show Pt _ _ _ 4 _ [.int v1] _ _
  refine pt_d (pt_ifB_eq gx298_4 h1 (fun e2 => ?_) (fun e2 => ?_))
  · have H := H.1 e2
    refine pt_d (pt_iconst gx298_46 (fun v3 h3 => ?_))
    exact pt_d (pt_iret gx298_47 ⟨_, rfl, by rw [h3]; exact H⟩)
  · have H := H.2 e2
    refine pt_d (pt_1 (fun n d => r_iloadn gx298_7 rfl) ?_)
    refine pt_d (pt_iconst gx298_8 (fun v4 h4 => ?_))
    refine pt_d (pt_iconst gx298_9 (fun v5 h5 => ?_))
    refine pt_d (pt_stat (as := [.int x2, .int v4, .int v5]) (r := []) gx298_10 rfl (show zmt[196]? = some zM196 from rfl) rfl rfl rfl rfl (c_196 S z2 h4 h5) (kqP (fun v6 h6 => ?_)))
    show Pt _ _ _ 13 _ [.int v6] _ _
    refine pt_d (pt_ifB_eq gx298_13 h6 (fun e7 => ?_) (fun e7 => ?_))
    · have H := H.1 e7
      refine pt_d (pt_iconst gx298_46 (fun v8 h8 => ?_))
      exact pt_d (pt_iret gx298_47 ⟨_, rfl, by rw [h8]; exact H⟩)
    · have H := H.2 e7
      refine pt_d (pt_1 (fun n d => r_iloadn gx298_16 rfl) ?_)
      refine pt_d (pt_iconst gx298_17 (fun v9 h9 => ?_))
      refine pt_d (pt_icmp_ne gx298_18 z2 h9 (fun e10 => ?_) (fun e10 => ?_))
      · have H := H.1 e10
        refine pt_d (pt_1 (fun n d => r_aloadn gx298_48 rfl) ?_)
        refine pt_d (pt_1 (fun n d => r_aloadn gx298_49 rfl) ?_)
        refine pt_d (pt_getI (B := 1) gx298_50 S (fun v11 h11 => ?_))
        obtain ⟨pr12, H⟩ := H
        refine pt_d (pt_virt (as := [.int v11]) (r := []) gx298_53 rfl (show zmt[239]? = some zM239 from rfl) rfl rfl rfl rfl (c_239 S h11 pr12) (kqN (fun h_12 P12 => ?_)))
        have S12 := P12.1
        have H := H h_12 P12
        show Pt _ _ _ 56 _ [] _ _
        refine pt_d (pt_iconst gx298_56 (fun v13 h13 => ?_))
        refine pt_d (pt_1 (fun n d => r_istore (L' := [some (.ref 72), some (.int x1), some (.int x2), some (.int x3), some (.int v13), none, none, none, none, none]) gx298_57 rfl rfl) ?_)
        refine pt_d (pt_iconst gx298_59 (fun v14 h14 => ?_))
        refine pt_d (pt_1 (fun n d => r_istore (L' := [some (.ref 72), some (.int x1), some (.int x2), some (.int x3), some (.int v13), some (.int v14), none, none, none, none]) gx298_60 rfl rfl) ?_)
        refine pt_d (pt_iconst gx298_62 (fun v15 h15 => ?_))
        refine pt_d (pt_1 (fun n d => r_istore (L' := [some (.ref 72), some (.int x1), some (.int x2), some (.int x3), some (.int v13), some (.int v14), some (.int v15), none, none, none]) gx298_63 rfl rfl) ?_)
        refine pt_d (pt_iconst gx298_65 (fun v16 h16 => ?_))
        refine pt_d (pt_1 (fun n d => r_istore (L' := [some (.ref 72), some (.int x1), some (.int x2), some (.int x3), some (.int v13), some (.int v14), some (.int v15), some (.int v16), none, none]) gx298_66 rfl rfl) ?_)
        refine pt_d (pt_iconst gx298_68 (fun v17 h17 => ?_))
        refine pt_d (pt_1 (fun n d => r_istore (L' := [some (.ref 72), some (.int x1), some (.int x2), some (.int x3), some (.int v13), some (.int v14), some (.int v15), some (.int v16), some (.int v17), none]) gx298_69 rfl rfl) ?_)
        exact H v13 v14 v15 v16 v17 _ h13 h14 h15 h16 h17
      · have H := H.2 e10
        refine pt_d (pt_1 (fun n d => r_iloadn gx298_21 rfl) ?_)
        refine pt_d (pt_bipush gx298_22 (fun v18 h18 => ?_))
        refine pt_d (pt_sipush gx298_24 (fun v19 h19 => ?_))
        refine pt_d (pt_stat (as := [.int x3, .int v18, .int v19]) (r := []) gx298_27 rfl (show zmt[196]? = some zM196 from rfl) rfl rfl rfl rfl (c_196 S z3 h18 h19) (kqP (fun v20 h20 => ?_)))
        show Pt _ _ _ 30 _ [.int v20] _ _
        refine pt_d (pt_ifB_eq gx298_30 h20 (fun e21 => ?_) (fun e21 => ?_))
        · have H := H.1 e21
          refine pt_d (pt_iconst gx298_46 (fun v22 h22 => ?_))
          exact pt_d (pt_iret gx298_47 ⟨_, rfl, by rw [h22]; exact H⟩)
        · have H := H.2 e21
          refine pt_d (pt_1 (fun n d => r_iloadn gx298_33 rfl) ?_)
          refine pt_d (pt_bipush gx298_34 (fun v23 h23 => ?_))
          refine pt_d (pt_irem gx298_36 z3 h23 (fun v24 h24 => ?_))
          refine pt_d (pt_iconst gx298_37 (fun v25 h25 => ?_))
          refine pt_d (pt_bipush gx298_38 (fun v26 h26 => ?_))
          refine pt_d (pt_stat (as := [.int v24, .int v25, .int v26]) (r := []) gx298_40 rfl (show zmt[196]? = some zM196 from rfl) rfl rfl rfl rfl (c_196 S h24 h25 h26) (kqP (fun v27 h27 => ?_)))
          show Pt _ _ _ 43 _ [.int v27] _ _
          refine pt_d (pt_ifB_ne gx298_43 h27 (fun e28 => ?_) (fun e28 => ?_))
          · have H := H.1 e28
            refine pt_d (pt_1 (fun n d => r_aloadn gx298_48 rfl) ?_)
            refine pt_d (pt_1 (fun n d => r_aloadn gx298_49 rfl) ?_)
            refine pt_d (pt_getI (B := 1) gx298_50 S (fun v29 h29 => ?_))
            obtain ⟨pr30, H⟩ := H
            refine pt_d (pt_virt (as := [.int v29]) (r := []) gx298_53 rfl (show zmt[239]? = some zM239 from rfl) rfl rfl rfl rfl (c_239 S h29 pr30) (kqN (fun h_30 P30 => ?_)))
            have S30 := P30.1
            have H := H h_30 P30
            show Pt _ _ _ 56 _ [] _ _
            refine pt_d (pt_iconst gx298_56 (fun v31 h31 => ?_))
            refine pt_d (pt_1 (fun n d => r_istore (L' := [some (.ref 72), some (.int x1), some (.int x2), some (.int x3), some (.int v31), none, none, none, none, none]) gx298_57 rfl rfl) ?_)
            refine pt_d (pt_iconst gx298_59 (fun v32 h32 => ?_))
            refine pt_d (pt_1 (fun n d => r_istore (L' := [some (.ref 72), some (.int x1), some (.int x2), some (.int x3), some (.int v31), some (.int v32), none, none, none, none]) gx298_60 rfl rfl) ?_)
            refine pt_d (pt_iconst gx298_62 (fun v33 h33 => ?_))
            refine pt_d (pt_1 (fun n d => r_istore (L' := [some (.ref 72), some (.int x1), some (.int x2), some (.int x3), some (.int v31), some (.int v32), some (.int v33), none, none, none]) gx298_63 rfl rfl) ?_)
            refine pt_d (pt_iconst gx298_65 (fun v34 h34 => ?_))
            refine pt_d (pt_1 (fun n d => r_istore (L' := [some (.ref 72), some (.int x1), some (.int x2), some (.int x3), some (.int v31), some (.int v32), some (.int v33), some (.int v34), none, none]) gx298_66 rfl rfl) ?_)
            refine pt_d (pt_iconst gx298_68 (fun v35 h35 => ?_))
            refine pt_d (pt_1 (fun n d => r_istore (L' := [some (.ref 72), some (.int x1), some (.int x2), some (.int x3), some (.int v31), some (.int v32), some (.int v33), some (.int v34), some (.int v35), none]) gx298_69 rfl rfl) ?_)
            exact H v31 v32 v33 v34 v35 _ h31 h32 h33 h34 h35
          · have H := H.2 e28
            refine pt_d (pt_iconst gx298_46 (fun v36 h36 => ?_))
            exact pt_d (pt_iret gx298_47 ⟨_, rfl, by rw [h36]; exact H⟩)
theorem d298_71 {n : Nat} {X : aX} {h : aH} {P : Int → aH → Prop} {x1 x2 x3 x4 x5 x6 x7 x8 : Int32} {a1 a2 a3 a4 a5 a6 a7 a8 : Int} {u9 : Option Value} (S : wS h) (z1 : x1.toInt = a1) (z2 : x2.toInt = a2) (z3 : x3.toInt = a3) (z4 : x4.toInt = a4) (z5 : x5.toInt = a5) (z6 : x6.toInt = a6) (z7 : x7.toInt = a7) (z8 : x8.toInt = a8) (H : ((vw h 72 2 ≤ a8 → ((2 ≤ a2 → ((a6 ≤ 1000) ∧ (((0 ≤ a6 ∧ a6 ≤ 8) ∧ (0 : Int) ≤ a7 ∧ a7 ≤ a6 + 1 ∧ a6 ≤ a6) ∧ ((w64 ((iRem a3 100) * (pwF 100 (a6).toNat)) ≤ w64 (100 * (gSm (tCh (mWy a6) a6 (iDiv a3 100)) a7 a6 (a6 + 1).toNat)) → (((0 ≤ a6 ∧ a6 ≤ 8) ∧ (0 : Int) ≤ 0 ∧ 0 ≤ a7 + 1 ∧ a7 ≤ a6) ∧ ((w64 ((iRem a3 100) * (pwF 100 (a6).toNat)) ≤ w64 (100 * (gSm (tCh (mWy a6) a6 (iDiv a3 100)) 0 a7 (a7 + 1).toNat)) → P 0 h) ∧ (w64 (100 * (gSm (tCh (mWy a6) a6 (iDiv a3 100)) 0 a7 (a7 + 1).toNat)) < w64 ((iRem a3 100) * (pwF 100 (a6).toNat)) → P 2 h)))) ∧ (w64 (100 * (gSm (tCh (mWy a6) a6 (iDiv a3 100)) a7 a6 (a6 + 1).toNat)) < w64 ((iRem a3 100) * (pwF 100 (a6).toNat)) → P 1 h))))) ∧ (a2 < 2 → ((a2 ≠ 0 → P a5 h) ∧ (a2 = 0 → P a4 h))))) ∧ (a8 < vw h 72 2 → ((¬ (mFarm (vw h) a8) → (∀ (w8 : Int32) (u9_ : Option Value), w8.toInt = w32 (a8 + 1) → Pt n X zM298 71 [some (.ref 72), some (.int x1), some (.int x2), some (.int x3), some (.int x4), some (.int x5), some (.int x6), some (.int x7), some (.int w8), u9_] [] h (qI P))) ∧ ((mFarm (vw h) a8) → ((0 ≤ vw h 72 32 ∧ vw h 72 32 ≤ 200) ∧ (((∃ c, (0 ≤ c ∧ c < vw h 72 32) ∧ (vw h 98 c = a8 ∧ vw h 100 c = a1)) → ((0 ≤ vw h 72 19 ∧ vw h 72 19 ≤ 300) ∧ ((mErr (vw h) a8 a1 ≤ 2 → ((8 ≤ a4 → (∀ (w4 : Int32) (w5 : Int32) (w8 : Int32) (u9_ : Option Value), w4.toInt = w32 (a4 + 1) → w5.toInt = w32 (a5 + 0) → w8.toInt = w32 (a8 + 1) → Pt n X zM298 71 [some (.ref 72), some (.int x1), some (.int x2), some (.int x3), some (.int w4), some (.int w5), some (.int x6), some (.int x7), some (.int w8), u9_] [] h (qI P))) ∧ (a4 < 8 → (∀ (w4 : Int32) (w5 : Int32) (w6 : Int32) (w7 : Int32) (w8 : Int32) (u9_ : Option Value), w4.toInt = w32 (a4 + 1) → w5.toInt = w32 (a5 + 0) → w6.toInt = w32 (a6 + 1) → w7.toInt = w32 (a7 + 0) → w8.toInt = w32 (a8 + 1) → Pt n X zM298 71 [some (.ref 72), some (.int x1), some (.int x2), some (.int x3), some (.int w4), some (.int w5), some (.int w6), some (.int w7), some (.int w8), u9_] [] h (qI P))))) ∧ (2 < mErr (vw h) a8 a1 → ((8 ≤ a4 → (∀ (w4 : Int32) (w5 : Int32) (w8 : Int32) (u9_ : Option Value), w4.toInt = w32 (a4 + 1) → w5.toInt = w32 (a5 + 1) → w8.toInt = w32 (a8 + 1) → Pt n X zM298 71 [some (.ref 72), some (.int x1), some (.int x2), some (.int x3), some (.int w4), some (.int w5), some (.int x6), some (.int x7), some (.int w8), u9_] [] h (qI P))) ∧ (a4 < 8 → (∀ (w4 : Int32) (w5 : Int32) (w6 : Int32) (w7 : Int32) (w8 : Int32) (u9_ : Option Value), w4.toInt = w32 (a4 + 1) → w5.toInt = w32 (a5 + 1) → w6.toInt = w32 (a6 + 1) → w7.toInt = w32 (a7 + 1) → w8.toInt = w32 (a8 + 1) → Pt n X zM298 71 [some (.ref 72), some (.int x1), some (.int x2), some (.int x3), some (.int w4), some (.int w5), some (.int w6), some (.int w7), some (.int w8), u9_] [] h (qI P)))))))) ∧ (¬ (∃ c, (0 ≤ c ∧ c < vw h 72 32) ∧ (vw h 98 c = a8 ∧ vw h 100 c = a1)) → (∀ (w8 : Int32) (u9_ : Option Value), w8.toInt = w32 (a8 + 1) → Pt n X zM298 71 [some (.ref 72), some (.int x1), some (.int x2), some (.int x3), some (.int x4), some (.int x5), some (.int x6), some (.int x7), some (.int w8), u9_] [] h (qI P)))))))))) : Pt (n + 1) X zM298 71 [some (.ref 72), some (.int x1), some (.int x2), some (.int x3), some (.int x4), some (.int x5), some (.int x6), some (.int x7), some (.int x8), u9] [] h (qI P) := by
  refine pt_1 (fun n d => r_iload gx298_71 rfl) ?_
  refine pt_d (pt_1 (fun n d => r_aloadn gx298_73 rfl) ?_)
  refine pt_d (pt_getI (B := 2) gx298_74 S (fun v1 h1 => ?_))
  refine pt_d (pt_icmp_ge gx298_77 z8 h1 (fun e2 => ?_) (fun e2 => ?_))
  · have H := H.1 e2
    refine pt_d (pt_1 (fun n d => r_iloadn gx298_169 rfl) ?_)
    refine pt_d (pt_iconst gx298_170 (fun v3 h3 => ?_))
    refine pt_d (pt_icmp_ge gx298_171 z2 h3 (fun e4 => ?_) (fun e4 => ?_))
    · have H := H.1 e4
      refine pt_d (pt_1 (fun n d => r_iloadn gx298_186 rfl) ?_)
      refine pt_d (pt_bipush gx298_187 (fun v5 h5 => ?_))
      refine pt_d (pt_irem gx298_189 z3 h5 (fun v6 h6 => ?_))
      refine pt_d (pt_i2l gx298_190 h6 (fun v7 h7 => ?_))
      refine pt_d (pt_ldc2_w (c := 100) gx298_191 rfl (fun v8 h8 => ?_))
      refine pt_d (pt_1 (fun n d => r_iload gx298_194 rfl) ?_)
      obtain ⟨pr9, H⟩ := H
      refine pt_d (pt_stat (as := [.long v8, .int x6]) (r := [.long v7]) gx298_196 rfl (show zmt[296]? = some zM296 from rfl) rfl rfl rfl rfl (c_296 S h8 z6 pr9) (kqPJ (fun v9 h9 => ?_)))
      show Pt _ _ _ 199 _ [.long v9, .long v7] _ _
      refine pt_d (pt_lmul gx298_199 h7 h9 (fun v10 h10 => ?_))
      refine pt_d (pt_1 (fun n d => r_lstore (L' := [some (.ref 72), some (.int x1), some (.int x2), some (.int x3), some (.int x4), some (.int x5), some (.int x6), some (.int x7), some (.long v10), none]) gx298_200 rfl rfl) ?_)
      refine pt_d (pt_ldc2_w (c := 100) gx298_202 rfl (fun v11 h11 => ?_))
      refine pt_d (pt_1 (fun n d => r_iload gx298_205 rfl) ?_)
      refine pt_d (pt_1 (fun n d => r_iload gx298_207 rfl) ?_)
      refine pt_d (pt_1 (fun n d => r_iload gx298_209 rfl) ?_)
      refine pt_d (pt_1 (fun n d => r_iloadn gx298_211 rfl) ?_)
      refine pt_d (pt_bipush gx298_212 (fun v12 h12 => ?_))
      refine pt_d (pt_idiv gx298_214 z3 h12 (fun v13 h13 => ?_))
      obtain ⟨pr14, H⟩ := H
      refine pt_d (pt_stat (as := [.int x6, .int x7, .int x6, .int v13]) (r := [.long v11]) gx298_215 rfl (show zmt[297]? = some zM297 from rfl) rfl rfl rfl rfl (c_297 S z6 z7 z6 h13 pr14) (kqPJ (fun v14 h14 => ?_)))
      show Pt _ _ _ 218 _ [.long v14, .long v11] _ _
      refine pt_d (pt_lmul gx298_218 h11 h14 (fun v15 h15 => ?_))
      refine pt_d (pt_1 (fun n d => r_lload gx298_219 rfl) ?_)
      refine pt_d (pt_lcmp_ge gx298_221 gx298_222 h15 h10 (fun e16 => ?_) (fun e16 => ?_))
      · have H := H.1 e16
        refine pt_d (pt_ldc2_w (c := 100) gx298_227 rfl (fun v17 h17 => ?_))
        refine pt_d (pt_1 (fun n d => r_iload gx298_230 rfl) ?_)
        refine pt_d (pt_iconst gx298_232 (fun v18 h18 => ?_))
        refine pt_d (pt_1 (fun n d => r_iload gx298_233 rfl) ?_)
        refine pt_d (pt_1 (fun n d => r_iloadn gx298_235 rfl) ?_)
        refine pt_d (pt_bipush gx298_236 (fun v19 h19 => ?_))
        refine pt_d (pt_idiv gx298_238 z3 h19 (fun v20 h20 => ?_))
        obtain ⟨pr21, H⟩ := H
        refine pt_d (pt_stat (as := [.int x6, .int v18, .int x7, .int v20]) (r := [.long v17]) gx298_239 rfl (show zmt[297]? = some zM297 from rfl) rfl rfl rfl rfl (c_297 S z6 h18 z7 h20 pr21) (kqPJ (fun v21 h21 => ?_)))
        show Pt _ _ _ 242 _ [.long v21, .long v17] _ _
        refine pt_d (pt_lmul gx298_242 h17 h21 (fun v22 h22 => ?_))
        refine pt_d (pt_1 (fun n d => r_lload gx298_243 rfl) ?_)
        refine pt_d (pt_lcmp_ge gx298_245 gx298_246 h22 h10 (fun e23 => ?_) (fun e23 => ?_))
        · have H := H.1 e23
          refine pt_d (pt_iconst gx298_253 (fun v24 h24 => ?_))
          exact pt_d (pt_iret gx298_254 ⟨_, rfl, by rw [h24]; exact H⟩)
        · have H := H.2 e23
          refine pt_d (pt_iconst gx298_249 (fun v25 h25 => ?_))
          refine pt_d (pt_1 (fun n d => r_goto gx298_250) ?_)
          exact pt_d (pt_iret gx298_254 ⟨_, rfl, by rw [h25]; exact H⟩)
      · have H := H.2 e16
        refine pt_d (pt_iconst gx298_225 (fun v26 h26 => ?_))
        exact pt_d (pt_iret gx298_226 ⟨_, rfl, by rw [h26]; exact H⟩)
    · have H := H.2 e4
      refine pt_d (pt_1 (fun n d => r_iloadn gx298_174 rfl) ?_)
      refine pt_d (pt_if_ne gx298_175 z2 (fun e27 => ?_) (fun e27 => ?_))
      · have H := H.1 e27
        refine pt_d (pt_1 (fun n d => r_iload gx298_183 rfl) ?_)
        exact pt_d (pt_iret gx298_185 ⟨_, rfl, by rw [z5]; exact H⟩)
      · have H := H.2 e27
        refine pt_d (pt_1 (fun n d => r_iload gx298_178 rfl) ?_)
        refine pt_d (pt_1 (fun n d => r_goto gx298_180) ?_)
        exact pt_d (pt_iret gx298_185 ⟨_, rfl, by rw [z4]; exact H⟩)
  · have H := H.2 e2
    refine pt_d (pt_1 (fun n d => r_aloadn gx298_80 rfl) ?_)
    refine pt_d (pt_1 (fun n d => r_iload gx298_81 rfl) ?_)
    refine pt_d (pt_virt (as := [.int x8]) (r := []) gx298_83 rfl (show zmt[202]? = some zM202 from rfl) rfl rfl rfl rfl (c_202 S z8) (kqP (fun v28 h28 => ?_)))
    show Pt _ _ _ 86 _ [.int v28] _ _
    refine pt_d (pt_ifB_eq gx298_86 h28 (fun e29 => ?_) (fun e29 => ?_))
    · have H := H.1 e29
      refine pt_d (pt_iinc (c := 1) gx298_163 rfl z8 (fun v30 h30 => ?_))
      show Pt _ _ _ _ [some (.ref 72), some (.int x1), some (.int x2), some (.int x3), some (.int x4), some (.int x5), some (.int x6), some (.int x7), some (.int v30), u9] [] _ _
      refine pt_d (pt_1 (fun n d => r_goto gx298_166) ?_)
      exact H v30 _ h30
    · have H := H.2 e29
      refine pt_d (pt_1 (fun n d => r_aloadn gx298_89 rfl) ?_)
      refine pt_d (pt_1 (fun n d => r_iload gx298_90 rfl) ?_)
      refine pt_d (pt_1 (fun n d => r_iloadn gx298_92 rfl) ?_)
      obtain ⟨pr31, H⟩ := H
      refine pt_d (pt_virt (as := [.int x8, .int x1]) (r := []) gx298_93 rfl (show zmt[295]? = some zM295 from rfl) rfl rfl rfl rfl (c_295 S z8 z1 pr31) (kqP (fun v31 h31 => ?_)))
      show Pt _ _ _ 96 _ [.int v31] _ _
      refine pt_d (pt_ifB_ne gx298_96 h31 (fun e32 => ?_) (fun e32 => ?_))
      · have H := H.1 e32
        refine pt_d (pt_1 (fun n d => r_aloadn gx298_102 rfl) ?_)
        refine pt_d (pt_1 (fun n d => r_iload gx298_103 rfl) ?_)
        refine pt_d (pt_1 (fun n d => r_iloadn gx298_105 rfl) ?_)
        obtain ⟨pr33, H⟩ := H
        refine pt_d (pt_virt (as := [.int x8, .int x1]) (r := []) gx298_106 rfl (show zmt[271]? = some zM271 from rfl) rfl rfl rfl rfl (c_271 S z8 z1 pr33) (kqP (fun v33 h33 => ?_)))
        show Pt _ _ _ 109 _ [.int v33] _ _
        refine pt_d (pt_iconst gx298_109 (fun v34 h34 => ?_))
        refine pt_d (pt_icmp_le gx298_110 h33 h34 (fun e35 => ?_) (fun e35 => ?_))
        · have H := H.1 e35
          refine pt_d (pt_iconst gx298_117 (fun v36 h36 => ?_))
          refine pt_d (pt_1 (fun n d => r_istore (L' := [some (.ref 72), some (.int x1), some (.int x2), some (.int x3), some (.int x4), some (.int x5), some (.int x6), some (.int x7), some (.int x8), some (.int v36)]) gx298_118 rfl rfl) ?_)
          refine pt_d (pt_1 (fun n d => r_iload gx298_120 rfl) ?_)
          refine pt_d (pt_bipush gx298_122 (fun v37 h37 => ?_))
          refine pt_d (pt_icmp_ge gx298_124 z4 h37 (fun e38 => ?_) (fun e38 => ?_))
          · have H := H.1 e38
            refine pt_d (pt_iinc (c := 1) gx298_145 rfl z4 (fun v39 h39 => ?_))
            show Pt _ _ _ _ [some (.ref 72), some (.int x1), some (.int x2), some (.int x3), some (.int v39), some (.int x5), some (.int x6), some (.int x7), some (.int x8), some (.int v36)] [] _ _
            refine pt_d (pt_1 (fun n d => r_iload gx298_148 rfl) ?_)
            refine pt_d (pt_1 (fun n d => r_iload gx298_150 rfl) ?_)
            refine pt_d (pt_if_eq gx298_152 h36 (fun e40 => ?_) (fun e40 => absurd e40 (by decide)))
            refine pt_d (pt_iconst gx298_159 (fun v41 h41 => ?_))
            refine pt_d (pt_iadd gx298_160 z5 h41 (fun v42 h42 => ?_))
            refine pt_d (pt_1 (fun n d => r_istore (L' := [some (.ref 72), some (.int x1), some (.int x2), some (.int x3), some (.int v39), some (.int v42), some (.int x6), some (.int x7), some (.int x8), some (.int v36)]) gx298_161 rfl rfl) ?_)
            refine pt_d (pt_iinc (c := 1) gx298_163 rfl z8 (fun v43 h43 => ?_))
            show Pt _ _ _ _ [some (.ref 72), some (.int x1), some (.int x2), some (.int x3), some (.int v39), some (.int v42), some (.int x6), some (.int x7), some (.int v43), some (.int v36)] [] _ _
            refine pt_d (pt_1 (fun n d => r_goto gx298_166) ?_)
            exact H v39 v42 v43 _ h39 h42 h43
          · have H := H.2 e38
            refine pt_d (pt_iinc (c := 1) gx298_127 rfl z6 (fun v44 h44 => ?_))
            show Pt _ _ _ _ [some (.ref 72), some (.int x1), some (.int x2), some (.int x3), some (.int x4), some (.int x5), some (.int v44), some (.int x7), some (.int x8), some (.int v36)] [] _ _
            refine pt_d (pt_1 (fun n d => r_iload gx298_130 rfl) ?_)
            refine pt_d (pt_1 (fun n d => r_iload gx298_132 rfl) ?_)
            refine pt_d (pt_if_eq gx298_134 h36 (fun e45 => ?_) (fun e45 => absurd e45 (by decide)))
            refine pt_d (pt_iconst gx298_141 (fun v46 h46 => ?_))
            refine pt_d (pt_iadd gx298_142 z7 h46 (fun v47 h47 => ?_))
            refine pt_d (pt_1 (fun n d => r_istore (L' := [some (.ref 72), some (.int x1), some (.int x2), some (.int x3), some (.int x4), some (.int x5), some (.int v44), some (.int v47), some (.int x8), some (.int v36)]) gx298_143 rfl rfl) ?_)
            refine pt_d (pt_iinc (c := 1) gx298_145 rfl z4 (fun v48 h48 => ?_))
            show Pt _ _ _ _ [some (.ref 72), some (.int x1), some (.int x2), some (.int x3), some (.int v48), some (.int x5), some (.int v44), some (.int v47), some (.int x8), some (.int v36)] [] _ _
            refine pt_d (pt_1 (fun n d => r_iload gx298_148 rfl) ?_)
            refine pt_d (pt_1 (fun n d => r_iload gx298_150 rfl) ?_)
            refine pt_d (pt_if_eq gx298_152 h36 (fun e49 => ?_) (fun e49 => absurd e49 (by decide)))
            refine pt_d (pt_iconst gx298_159 (fun v50 h50 => ?_))
            refine pt_d (pt_iadd gx298_160 z5 h50 (fun v51 h51 => ?_))
            refine pt_d (pt_1 (fun n d => r_istore (L' := [some (.ref 72), some (.int x1), some (.int x2), some (.int x3), some (.int v48), some (.int v51), some (.int v44), some (.int v47), some (.int x8), some (.int v36)]) gx298_161 rfl rfl) ?_)
            refine pt_d (pt_iinc (c := 1) gx298_163 rfl z8 (fun v52 h52 => ?_))
            show Pt _ _ _ _ [some (.ref 72), some (.int x1), some (.int x2), some (.int x3), some (.int v48), some (.int v51), some (.int v44), some (.int v47), some (.int v52), some (.int v36)] [] _ _
            refine pt_d (pt_1 (fun n d => r_goto gx298_166) ?_)
            exact H v48 v51 v44 v47 v52 _ h48 h51 h44 h47 h52
        · have H := H.2 e35
          refine pt_d (pt_iconst gx298_113 (fun v53 h53 => ?_))
          refine pt_d (pt_1 (fun n d => r_goto gx298_114) ?_)
          refine pt_d (pt_1 (fun n d => r_istore (L' := [some (.ref 72), some (.int x1), some (.int x2), some (.int x3), some (.int x4), some (.int x5), some (.int x6), some (.int x7), some (.int x8), some (.int v53)]) gx298_118 rfl rfl) ?_)
          refine pt_d (pt_1 (fun n d => r_iload gx298_120 rfl) ?_)
          refine pt_d (pt_bipush gx298_122 (fun v54 h54 => ?_))
          refine pt_d (pt_icmp_ge gx298_124 z4 h54 (fun e55 => ?_) (fun e55 => ?_))
          · have H := H.1 e55
            refine pt_d (pt_iinc (c := 1) gx298_145 rfl z4 (fun v56 h56 => ?_))
            show Pt _ _ _ _ [some (.ref 72), some (.int x1), some (.int x2), some (.int x3), some (.int v56), some (.int x5), some (.int x6), some (.int x7), some (.int x8), some (.int v53)] [] _ _
            refine pt_d (pt_1 (fun n d => r_iload gx298_148 rfl) ?_)
            refine pt_d (pt_1 (fun n d => r_iload gx298_150 rfl) ?_)
            refine pt_d (pt_if_eq gx298_152 h53 (fun e57 => absurd e57 (by decide)) (fun e57 => ?_))
            refine pt_d (pt_iconst gx298_155 (fun v58 h58 => ?_))
            refine pt_d (pt_1 (fun n d => r_goto gx298_156) ?_)
            refine pt_d (pt_iadd gx298_160 z5 h58 (fun v59 h59 => ?_))
            refine pt_d (pt_1 (fun n d => r_istore (L' := [some (.ref 72), some (.int x1), some (.int x2), some (.int x3), some (.int v56), some (.int v59), some (.int x6), some (.int x7), some (.int x8), some (.int v53)]) gx298_161 rfl rfl) ?_)
            refine pt_d (pt_iinc (c := 1) gx298_163 rfl z8 (fun v60 h60 => ?_))
            show Pt _ _ _ _ [some (.ref 72), some (.int x1), some (.int x2), some (.int x3), some (.int v56), some (.int v59), some (.int x6), some (.int x7), some (.int v60), some (.int v53)] [] _ _
            refine pt_d (pt_1 (fun n d => r_goto gx298_166) ?_)
            exact H v56 v59 v60 _ h56 h59 h60
          · have H := H.2 e55
            refine pt_d (pt_iinc (c := 1) gx298_127 rfl z6 (fun v61 h61 => ?_))
            show Pt _ _ _ _ [some (.ref 72), some (.int x1), some (.int x2), some (.int x3), some (.int x4), some (.int x5), some (.int v61), some (.int x7), some (.int x8), some (.int v53)] [] _ _
            refine pt_d (pt_1 (fun n d => r_iload gx298_130 rfl) ?_)
            refine pt_d (pt_1 (fun n d => r_iload gx298_132 rfl) ?_)
            refine pt_d (pt_if_eq gx298_134 h53 (fun e62 => absurd e62 (by decide)) (fun e62 => ?_))
            refine pt_d (pt_iconst gx298_137 (fun v63 h63 => ?_))
            refine pt_d (pt_1 (fun n d => r_goto gx298_138) ?_)
            refine pt_d (pt_iadd gx298_142 z7 h63 (fun v64 h64 => ?_))
            refine pt_d (pt_1 (fun n d => r_istore (L' := [some (.ref 72), some (.int x1), some (.int x2), some (.int x3), some (.int x4), some (.int x5), some (.int v61), some (.int v64), some (.int x8), some (.int v53)]) gx298_143 rfl rfl) ?_)
            refine pt_d (pt_iinc (c := 1) gx298_145 rfl z4 (fun v65 h65 => ?_))
            show Pt _ _ _ _ [some (.ref 72), some (.int x1), some (.int x2), some (.int x3), some (.int v65), some (.int x5), some (.int v61), some (.int v64), some (.int x8), some (.int v53)] [] _ _
            refine pt_d (pt_1 (fun n d => r_iload gx298_148 rfl) ?_)
            refine pt_d (pt_1 (fun n d => r_iload gx298_150 rfl) ?_)
            refine pt_d (pt_if_eq gx298_152 h53 (fun e66 => absurd e66 (by decide)) (fun e66 => ?_))
            refine pt_d (pt_iconst gx298_155 (fun v67 h67 => ?_))
            refine pt_d (pt_1 (fun n d => r_goto gx298_156) ?_)
            refine pt_d (pt_iadd gx298_160 z5 h67 (fun v68 h68 => ?_))
            refine pt_d (pt_1 (fun n d => r_istore (L' := [some (.ref 72), some (.int x1), some (.int x2), some (.int x3), some (.int v65), some (.int v68), some (.int v61), some (.int v64), some (.int x8), some (.int v53)]) gx298_161 rfl rfl) ?_)
            refine pt_d (pt_iinc (c := 1) gx298_163 rfl z8 (fun v69 h69 => ?_))
            show Pt _ _ _ _ [some (.ref 72), some (.int x1), some (.int x2), some (.int x3), some (.int v65), some (.int v68), some (.int v61), some (.int v64), some (.int v69), some (.int v53)] [] _ _
            refine pt_d (pt_1 (fun n d => r_goto gx298_166) ?_)
            exact H v65 v68 v61 v64 v69 _ h65 h68 h61 h64 h69
      · have H := H.2 e32
        refine pt_d (pt_1 (fun n d => r_goto gx298_99) ?_)
        refine pt_d (pt_iinc (c := 1) gx298_163 rfl z8 (fun v70 h70 => ?_))
        show Pt _ _ _ _ [some (.ref 72), some (.int x1), some (.int x2), some (.int x3), some (.int x4), some (.int x5), some (.int x6), some (.int x7), some (.int v70), u9] [] _ _
        refine pt_d (pt_1 (fun n d => r_goto gx298_166) ?_)
        exact H v70 _ h70
def okRt (y w pw : Int) : Prop := (0 ≤ y ∧ y ≤ 9) ∧ (0 ≤ w ∧ w ≤ 2) ∧ (w = 2 → (1 ≤ iDiv pw 100 ∧ iDiv pw 100 ≤ 99) ∧ 1 ≤ iRem pw 100 ∧ iRem pw 100 ≤ 49)
noncomputable def aRt (c w n x : Int) (what pw : Int) (W : Int → Nat → Int) : Int := if what = 0 then c else if what = 1 then w else uLk (W n) n x (iDiv pw 100) (iRem pw 100)
def R180 (h : aH) (y w pw r : Int) (h' : aH) : Prop := (-2147483648 ≤ pw ∧ pw ≤ 2147483647) ∧ ((¬ okRt y w pw ∧ r = -1 ∧ h' = h) ∨ (okRt y w pw ∧ R66 h y h' ∧ r = aRt (vw h' 48 13) (vw h' 48 14) (vw h' 48 15) (vw h' 48 16) w pw cWy))
theorem c_180 {n : Nat} {X : aX} {h : aH} {x1 x2 x3 : Int32} {a1 a2 a3 : Int} (S : wS h) (z1 : x1.toInt = a1) (z2 : x2.toInt = a2) (z3 : x3.toInt = a3) (I : IV h) : Pt n X zM180 0 [some (.ref 0), some (.int x1), some (.int x2), some (.int x3)] [] h (qI (fun r h' => wS h' ∧ R180 h a1 a2 a3 r h')) := by
  have rg : -2147483648 ≤ a3 ∧ a3 ≤ 2147483647 := by have := iR x3; omega
  have bad : ¬ okRt a1 a2 a3 → wS h ∧ R180 h a1 a2 a3 (-1) h := fun z => ⟨S, rg, Or.inl ⟨z, rfl, rfl⟩⟩
  have jb : ∀ h' : aH, R66 h a1 h' → 0 ≤ vw h' 48 15 ∧ vw h' 48 15 ≤ 8 := fun h' ⟨q, g, _, J⟩ => by
    have := nQ_b (P66 (vw g) a1) (vw g 1 1).toNat
    rw [J.2.2.2.1]
    omega
  have fin : okRt a1 a2 a3 → ∀ h' : aH, wS h' ∧ R66 h a1 h' → ∀ r, r = aRt (vw h' 48 13) (vw h' 48 14) (vw h' 48 15) (vw h' 48 16) a2 a3 cWy → wS h' ∧ R180 h a1 a2 a3 r h' := fun o h' R r e => ⟨R.1, rg, Or.inr ⟨o, R.2, e⟩⟩
  refine pt_d (d180_0 S z1 z2 z3 ⟨fun e => bad (fun z => e z.1), fun e1 => ⟨fun e2 => ⟨fun e3 => ⟨I, fun h' R => ?_⟩, fun e3 => ⟨fun e4 => bad (fun z => e4 (z.2.2 e3).1), fun e4 => ⟨fun e5 => ⟨I, fun h' R => ?_⟩, fun e5 => bad (fun z => e5 (z.2.2 e3).2)⟩⟩⟩, fun e2 => bad (fun z => e2 z.2.1)⟩⟩)
  · have o : okRt a1 a2 a3 := ⟨e1, e2, fun z => absurd z e3⟩
    refine ⟨fun z => fin o h' R _ ?_, fun z => ⟨fun z2 => fin o h' R _ ?_, fun z2 => ⟨jb h' R.2, fin o h' R _ ?_⟩⟩⟩
    · unfold aRt
      rw [if_pos z]
    · unfold aRt
      rw [if_neg z, if_pos z2]
    · unfold aRt
      rw [if_neg z, if_neg z2]
  · have o : okRt a1 a2 a3 := ⟨e1, e2, fun _ => ⟨e4, e5⟩⟩
    refine ⟨fun z => fin o h' R _ ?_, fun z => ⟨fun z2 => fin o h' R _ ?_, fun z2 => ⟨jb h' R.2, fin o h' R _ ?_⟩⟩⟩
    · unfold aRt
      rw [if_pos z]
    · unfold aRt
      rw [if_neg z, if_pos z2]
    · unfold aRt
      rw [if_neg z, if_neg z2]
theorem c_180w {n : Nat} {X : aX} {h : aH} {x1 x2 x3 : Int32} {a1 a2 a3 : Int} (S : wS h) (z1 : x1.toInt = a1) (z2 : x2.toInt = a2) (z3 : x3.toInt = a3) (I : IV h) : Pt n X zM180 0 [some (.ref 0), some (.int x1), some (.int x2), some (.int x3)] [] h (qI (fun r h' => R180 h a1 a2 a3 r h' ∧ IV h')) := by
  refine pt_q (pt_and (c_180 S z1 z2 z3 I) (wk_180 S z1 z2 z3 I)) ?_
  rintro v h' ⟨⟨x, ev, -, r⟩, ⟨x', -, -, -, I'⟩⟩
  exact ⟨x, ev, r, I'⟩


-- ===== the least land =====
theorem d53_0 {n : Nat} {X : aX} {h : aH} {P : Int → aH → Prop} {q1 : Nat} (S : wS h) (H : (∀ (w2 : Int32) (w3 : Int32), w2.toInt = 0 → w3.toInt = 0 → Pt n X zM53 4 [some (.ref 48), some (.ref q1), some (.int w2), some (.int w3)] [] h (qI P))) : Pt (n + 1) X zM53 0 [some (.ref 48), some (.ref q1), none, none] [] h (qI P) := by
  refine pt_iconst gx53_0 (fun v1 h1 => ?_)
  refine pt_d (pt_1 (fun n d => r_istoren (L' := [some (.ref 48), some (.ref q1), some (.int v1), none]) gx53_1 rfl rfl) ?_)
  refine pt_d (pt_iconst gx53_2 (fun v2 h2 => ?_))
  refine pt_d (pt_1 (fun n d => r_istoren (L' := [some (.ref 48), some (.ref q1), some (.int v1), some (.int v2)]) gx53_3 rfl rfl) ?_)
  exact H v1 v2 h1 h2
theorem d53_4 {n : Nat} {X : aX} {h : aH} {P : Int → aH → Prop} {x2 x3 : Int32} {a2 a3 : Int} {q1 : Nat} (S : wS h) (z2 : x2.toInt = a2) (z3 : x3.toInt = a3) (H : ((vw h 1 1 ≤ a3 → (∀ (w3 : Int32), w3.toInt = 0 → Pt n X zM53 76 [some (.ref 48), some (.ref q1), some (.int x2), some (.int w3)] [] h (qI P))) ∧ (a3 < vw h 1 1 → ((¬ (cField (vw h) a3) → (∀ (w3 : Int32), w3.toInt = w32 (a3 + 1) → Pt n X zM53 4 [some (.ref 48), some (.ref q1), some (.int x2), some (.int w3)] [] h (qI P))) ∧ ((cField (vw h) a3) → (((vw h q1 1 = ((16 : Nat) : Int) ∧ vw h q1 6 = ((q1 + 1 : Nat) : Int)) ∧ vw h q1 5 ≤ 300) ∧ ((¬ (clm (vw h) q1 a3) → (∀ (w3 : Int32), w3.toInt = w32 (a3 + 1) → Pt n X zM53 4 [some (.ref 48), some (.ref q1), some (.int x2), some (.int w3)] [] h (qI P))) ∧ ((clm (vw h) q1 a3) → ((vw h) q1 9 = (((q1 + 4) : Nat) : Int) ∧ (((0 ≤ a3 ∧ a3 < 150) ∧ ∀ j, 0 ≤ vw h 8 j ∧ vw h 8 j < 2147483648) ∧ ((sqA (vw h) a3 (q1 + 4) 24 ≤ 0 → (∀ (w3 : Int32), w3.toInt = w32 (a3 + 1) → Pt n X zM53 4 [some (.ref 48), some (.ref q1), some (.int x2), some (.int w3)] [] h (qI P))) ∧ (0 < sqA (vw h) a3 (q1 + 4) 24 → ((a2 < 10 → (0 ≤ a2 → a2 < 10 → ∀ h_20 : aH, wS h_20 → vw h_20 = up (vw h) 50 a2 a3 → (∀ (w2 : Int32) (w3 : Int32), w2.toInt = w32 (a2 + 1) → w3.toInt = w32 (a3 + 1) → Pt n X zM53 4 [some (.ref 48), some (.ref q1), some (.int w2), some (.int w3)] [] h_20 (qI P)))) ∧ (10 ≤ a2 → P (-4) h)))))))))))))) : Pt (n + 1) X zM53 4 [some (.ref 48), some (.ref q1), some (.int x2), some (.int x3)] [] h (qI P) := by
  refine pt_1 (fun n d => r_iloadn gx53_4 rfl) ?_
  refine pt_d (pt_1 (fun n d => r_aloadn gx53_5 rfl) ?_)
  refine pt_d (pt_getR gx53_6 S tr_48_0 ?_)
  refine pt_d (pt_getI (B := 1) gx53_9 S (fun v2 h2 => ?_))
  refine pt_d (pt_icmp_ge gx53_12 z3 h2 (fun e3 => ?_) (fun e3 => ?_))
  · have H := H.1 e3
    refine pt_d (pt_iconst gx53_74 (fun v4 h4 => ?_))
    refine pt_d (pt_1 (fun n d => r_istoren (L' := [some (.ref 48), some (.ref q1), some (.int x2), some (.int v4)]) gx53_75 rfl rfl) ?_)
    exact H v4 h4
  · have H := H.2 e3
    refine pt_d (pt_1 (fun n d => r_aloadn gx53_15 rfl) ?_)
    refine pt_d (pt_getR gx53_16 S tr_48_0 ?_)
    refine pt_d (pt_1 (fun n d => r_iloadn gx53_19 rfl) ?_)
    refine pt_d (pt_virt (as := [.int x3]) (r := []) gx53_20 rfl (show zmt[77]? = some zM77 from rfl) rfl rfl rfl rfl (c_77 S z3) (kqP (fun v6 h6 => ?_)))
    show Pt _ _ _ 23 _ [.int v6] _ _
    refine pt_d (pt_ifB_eq gx53_23 h6 (fun e7 => ?_) (fun e7 => ?_))
    · have H := H.1 e7
      refine pt_d (pt_iinc (c := 1) gx53_68 rfl z3 (fun v8 h8 => ?_))
      show Pt _ _ _ _ [some (.ref 48), some (.ref q1), some (.int x2), some (.int v8)] [] _ _
      refine pt_d (pt_1 (fun n d => r_goto gx53_71) ?_)
      exact H v8 h8
    · have H := H.2 e7
      refine pt_d (pt_1 (fun n d => r_aloadn gx53_26 rfl) ?_)
      refine pt_d (pt_1 (fun n d => r_iloadn gx53_27 rfl) ?_)
      obtain ⟨pr9, H⟩ := H
      refine pt_d (pt_virt (as := [.int x3]) (r := []) gx53_28 rfl (show zmt[99]? = some zM99 from rfl) rfl rfl rfl rfl (c_99 S z3 pr9) (kqP (fun v9 h9 => ?_)))
      show Pt _ _ _ 31 _ [.int v9] _ _
      refine pt_d (pt_ifB_eq gx53_31 h9 (fun e10 => ?_) (fun e10 => ?_))
      · have H := H.1 e10
        refine pt_d (pt_iinc (c := 1) gx53_68 rfl z3 (fun v11 h11 => ?_))
        show Pt _ _ _ _ [some (.ref 48), some (.ref q1), some (.int x2), some (.int v11)] [] _ _
        refine pt_d (pt_1 (fun n d => r_goto gx53_71) ?_)
        exact H v11 h11
      · have H := H.2 e10
        refine pt_d (pt_1 (fun n d => r_aloadn gx53_34 rfl) ?_)
        refine pt_d (pt_getR gx53_35 S tr_48_0 ?_)
        refine pt_d (pt_1 (fun n d => r_iloadn gx53_38 rfl) ?_)
        refine pt_d (pt_1 (fun n d => r_aloadn gx53_39 rfl) ?_)
        obtain ⟨pr13, H⟩ := H
        refine pt_d (pt_getK (B := 9) gx53_40 S (pr13) ?_)
        obtain ⟨pr14, H⟩ := H
        refine pt_d (pt_virt (as := [.int x3, .ref (q1 + 4)]) (r := []) gx53_43 rfl (show zmt[83]? = some zM83 from rfl) rfl rfl rfl rfl (c_83 S z3 pr14) (kqP (fun v14 h14 => ?_)))
        show Pt _ _ _ 46 _ [.int v14] _ _
        refine pt_d (pt_if_le gx53_46 h14 (fun e15 => ?_) (fun e15 => ?_))
        · have H := H.1 e15
          refine pt_d (pt_iinc (c := 1) gx53_68 rfl z3 (fun v16 h16 => ?_))
          show Pt _ _ _ _ [some (.ref 48), some (.ref q1), some (.int x2), some (.int v16)] [] _ _
          refine pt_d (pt_1 (fun n d => r_goto gx53_71) ?_)
          exact H v16 h16
        · have H := H.2 e15
          refine pt_d (pt_1 (fun n d => r_iloadn gx53_49 rfl) ?_)
          refine pt_d (pt_bipush gx53_50 (fun v17 h17 => ?_))
          refine pt_d (pt_icmp_lt gx53_52 z2 h17 (fun e18 => ?_) (fun e18 => ?_))
          · have H := H.1 e18
            refine pt_d (pt_1 (fun n d => r_aloadn gx53_58 rfl) ?_)
            refine pt_d (pt_getR gx53_59 S tr_48_5 ?_)
            refine pt_d (pt_1 (fun n d => r_iloadn gx53_62 rfl) ?_)
            refine pt_d (pt_1 (fun n d => r_iloadn gx53_63 rfl) ?_)
            refine pt_d (pt_iast (N' := 10) gx53_64 S tl_50 z2 z3 (fun h_20 S20 p20 q20 e20 => ?_))
            have H := H p20 q20
            refine pt_d (pt_iinc (c := 1) gx53_65 rfl z2 (fun v21 h21 => ?_))
            show Pt _ _ _ _ [some (.ref 48), some (.ref q1), some (.int v21), some (.int x3)] [] _ _
            refine pt_d (pt_iinc (c := 1) gx53_68 rfl z3 (fun v22 h22 => ?_))
            show Pt _ _ _ _ [some (.ref 48), some (.ref q1), some (.int v21), some (.int v22)] [] _ _
            refine pt_d (pt_1 (fun n d => r_goto gx53_71) ?_)
            have H := H h_20 S20 (by rw [e20])
            exact H v21 v22 h21 h22
          · have H := H.2 e18
            refine pt_d (pt_bipush gx53_55 (fun v23 h23 => ?_))
            exact pt_d (pt_iret gx53_57 ⟨_, rfl, by rw [h23]; exact H⟩)
theorem d53_76 {n : Nat} {X : aX} {h : aH} {P : Int → aH → Prop} {x2 x3 : Int32} {a2 a3 : Int} {q1 : Nat} (S : wS h) (z2 : x2.toInt = a2) (z3 : x3.toInt = a3) (H : ((a2 ≤ a3 → ((0 ≤ a2 ∧ a2 ≤ 10) ∧ ((0 ≤ a2 ∧ a2 ≤ 10) ∧ ∀ (y3 : Int) (h_3 : aH), (wS h_3 ∧ R60 (vw h) (chF (vw h) a2 (2 ^ (a2).toNat)) a2 y3 (vw h_3)) → P y3 h_3))) ∧ (a3 < a2 → ((((vw h q1 1 = ((16 : Nat) : Int) ∧ vw h q1 6 = ((q1 + 1 : Nat) : Int)) ∧ vw h q1 5 ≤ 300) ∧ a2 ≤ 10 ∧ (0 ≤ a3 ∧ a3 < a2) ∧ ∀ j, 0 ≤ j → j < a2 → 0 ≤ vw h 50 j ∧ vw h 50 j < 150) ∧ (0 ≤ a3 → a3 < 10 → ∀ h_6 : aH, wS h_6 → vw h_6 = up (vw h) 51 a3 (nbS (fun j => cMt (vw h) ((vw h) 50 a3) ((vw h) 50 j) ∧ two (vw h) q1 ((vw h) 50 a3) ((vw h) 50 j)) (a2).toNat) → (∀ (w3 : Int32), w3.toInt = w32 (a3 + 1) → Pt n X zM53 76 [some (.ref 48), some (.ref q1), some (.int x2), some (.int w3)] [] h_6 (qI P))))))) : Pt (n + 1) X zM53 76 [some (.ref 48), some (.ref q1), some (.int x2), some (.int x3)] [] h (qI P) := by
  refine pt_1 (fun n d => r_iloadn gx53_76 rfl) ?_
  refine pt_d (pt_1 (fun n d => r_iloadn gx53_77 rfl) ?_)
  refine pt_d (pt_icmp_ge gx53_78 z3 z2 (fun e1 => ?_) (fun e1 => ?_))
  · have H := H.1 e1
    refine pt_d (pt_1 (fun n d => r_aloadn gx53_100 rfl) ?_)
    refine pt_d (pt_1 (fun n d => r_aloadn gx53_101 rfl) ?_)
    refine pt_d (pt_1 (fun n d => r_iloadn gx53_102 rfl) ?_)
    obtain ⟨pr2, H⟩ := H
    refine pt_d (pt_virt (as := [.int x2]) (r := [.ref 48]) gx53_103 rfl (show zmt[56]? = some zM56 from rfl) rfl rfl rfl rfl (c_56 S z2 pr2) (kqP (fun v2 h2 => ?_)))
    show Pt _ _ _ 106 _ [.int v2, .ref 48] _ _
    refine pt_d (pt_1 (fun n d => r_iloadn gx53_106 rfl) ?_)
    obtain ⟨pr3, H⟩ := H
    refine pt_d (pt_virt (as := [.int v2, .int x2]) (r := []) gx53_107 rfl (show zmt[60]? = some zM60 from rfl) rfl rfl rfl rfl (c_60 S h2 z2 pr3) (kqI (fun v3 y3 h_3 h3 P3 => ?_)))
    have S3 := P3.1
    have H := H y3 h_3 P3
    show Pt _ _ _ 110 _ [.int v3] _ _
    exact pt_d (pt_iret gx53_110 ⟨_, rfl, by rw [h3]; exact H⟩)
  · have H := H.2 e1
    refine pt_d (pt_1 (fun n d => r_aloadn gx53_81 rfl) ?_)
    refine pt_d (pt_getR gx53_82 S tr_48_6 ?_)
    refine pt_d (pt_1 (fun n d => r_iloadn gx53_85 rfl) ?_)
    refine pt_d (pt_1 (fun n d => r_aloadn gx53_86 rfl) ?_)
    refine pt_d (pt_1 (fun n d => r_iloadn gx53_87 rfl) ?_)
    refine pt_d (pt_1 (fun n d => r_iloadn gx53_88 rfl) ?_)
    refine pt_d (pt_1 (fun n d => r_aloadn gx53_89 rfl) ?_)
    obtain ⟨pr5, H⟩ := H
    refine pt_d (pt_virt (as := [.int x3, .int x2, .ref q1]) (r := [.int x3, .ref 51]) gx53_90 rfl (show zmt[54]? = some zM54 from rfl) rfl rfl rfl rfl (c_54 S z3 z2 pr5) (kqP (fun v5 h5 => ?_)))
    show Pt _ _ _ 93 _ [.int v5, .int x3, .ref 51] _ _
    refine pt_d (pt_iast (N' := 10) gx53_93 S tl_51 z3 h5 (fun h_6 S6 p6 q6 e6 => ?_))
    have H := H p6 q6
    refine pt_d (pt_iinc (c := 1) gx53_94 rfl z3 (fun v7 h7 => ?_))
    show Pt _ _ _ _ [some (.ref 48), some (.ref q1), some (.int x2), some (.int v7)] [] _ _
    refine pt_d (pt_1 (fun n d => r_goto gx53_97) ?_)
    have H := H h_6 S6 (by rw [e6])
    exact H v7 h7
theorem nQ_inv {R : Int → Prop} {j : Int} (j0 : 0 ≤ j) : ∀ n : Nat, j < nQ R n → ∃ b : Nat, b < n ∧ R (b : Nat) ∧ nQ R b = j
  | 0, h => by
    have e : nQ R 0 = 0 := rfl
    rw [e] at h
    omega
  | n + 1, h => by
    by_cases r : R (n : Nat)
    · rw [nQ_t r] at h
      by_cases z : j < nQ R n
      · obtain ⟨b, b1, b2, b3⟩ := nQ_inv j0 n z
        exact ⟨b, by omega, b2, b3⟩
      · exact ⟨n, by omega, r, by omega⟩
    · rw [nQ_f r, Int.add_zero] at h
      obtain ⟨b, b1, b2, b3⟩ := nQ_inv j0 n h
      exact ⟨b, by omega, b2, b3⟩
theorem nbS_c {R R' : Int → Prop} (e : ∀ j, R j ↔ R' j) (n : Nat) : nbS R n = nbS R' n := by
  have : R = R' := funext (fun j => propext (e j))
  rw [this]
theorem sqA_w {V W : vS} {b : Int} {r : Nat} (e8 : ∀ j, W 8 j = V 8 j) (er : ∀ j, W r j = V r j) : ∀ y : Nat, sqA W b r y = sqA V b r y
  | 0 => rfl
  | y + 1 => by
    have e : ∀ V : vS, sqA V b r (y + 1) = sqA V b r y + bcn (tb (bAnd (V 8 (24 * b + (y : Nat))) (V r (y : Nat)))) 32 := fun _ => rfl
    rw [e, e, sqA_w e8 er y, e8, er]
def TR (V : vS) (q : Nat) (b : Int) : Prop := cField V b ∧ clm V q b ∧ 0 < sqA V b (q + 4) 24
theorem TR_w {V W : vS} {q : Nat} (hq : 146 ≤ q) (e : ∀ (c : Nat) j, c ≠ 50 → c ≠ 51 → W c j = V c j) (b : Int) : (cField W b ↔ cField V b) ∧ (clm W q b ↔ clm V q b) ∧ sqA W b (q + 4) 24 = sqA V b (q + 4) 24 := by
  refine ⟨?_, ?_, sqA_w (fun j => e 8 j (by decide) (by decide)) (fun j => e (q + 4) j (by omega) (by omega)) 24⟩
  · unfold cField cBody
    rw [e 1 1 (by decide) (by decide), e 2 b (by decide) (by decide)]
  · unfold clm
    simp only [e q _ (show q ≠ 50 by omega) (show q ≠ 51 by omega), e (q + 1) _ (show q + 1 ≠ 50 by omega) (show q + 1 ≠ 51 by omega), e 18 _ (show 18 ≠ 50 by decide) (show 18 ≠ 51 by decide)]
theorem cMt_w {V W : vS} (e8 : ∀ j, W 8 j = V 8 j) (a b : Int) : cMt W a b ↔ cMt V a b := by
  unfold cMt
  simp only [e8]
theorem two_w {V W : vS} {q : Nat} (hq : 146 ≤ q) (e : ∀ (c : Nat) j, c ≠ 50 → c ≠ 51 → W c j = V c j) (a b : Int) : two W q a b ↔ two V q a b := by
  unfold two
  simp only [e q _ (show q ≠ 50 by omega) (show q ≠ 51 by omega), e (q + 1) _ (show q + 1 ≠ 50 by omega) (show q + 1 ≠ 51 by omega), e 18 _ (show 18 ≠ 50 by decide) (show 18 ≠ 51 by decide), e 17 _ (show 17 ≠ 50 by decide) (show 17 ≠ 51 by decide)]
def R53 (V : vS) (q : Nat) (r : Int) (W : vS) : Prop := (10 < nQ (TR V q) (V 1 1).toNat ∧ r = -4 ∧ ∀ (c : Nat) j, c ≠ 50 → W c j = V c j) ∨ (nQ (TR V q) (V 1 1).toNat ≤ 10 ∧ ∃ U : vS, (∀ (c : Nat) j, c ≠ 50 → c ≠ 51 → U c j = V c j) ∧ (∀ b : Nat, (b : Int) < V 1 1 → TR V q (b : Nat) → U 50 (nQ (TR V q) b) = (b : Nat)) ∧ (∀ i, 0 ≤ i → i < nQ (TR V q) (V 1 1).toNat → U 51 i = nbS (fun j => cMt V (U 50 i) (U 50 j) ∧ two V q (U 50 i) (U 50 j)) (nQ (TR V q) (V 1 1).toNat).toNat) ∧ R60 U (chF U (nQ (TR V q) (V 1 1).toNat) (2 ^ (nQ (TR V q) (V 1 1).toNat).toNat)) (nQ (TR V q) (V 1 1).toNat) r W)
theorem l_53b {X : aX} {V U0 : vS} {q : Nat} {m : Int} (hq : 146 ≤ q) (L : (V q 1 = ((16 : Nat) : Int) ∧ V q 6 = ((q + 1 : Nat) : Int)) ∧ V q 5 ≤ 300) (hm : 0 ≤ m ∧ m ≤ 10) (e0 : ∀ (c : Nat) j, c ≠ 50 → c ≠ 51 → U0 c j = V c j) (ht : ∀ j, 0 ≤ j → j < m → 0 ≤ U0 50 j ∧ U0 50 j < 150) : ∀ (n : Nat) (h : aH) (x2 x3 : Int32) (k : Nat), wS h → x2.toInt = m → x3.toInt = (k : Int) → (k : Int) ≤ m → (∀ (c : Nat) j, c ≠ 51 → vw h c j = U0 c j) → (∀ i, 0 ≤ i → i < (k : Int) → vw h 51 i = nbS (fun j => cMt V (U0 50 i) (U0 50 j) ∧ two V q (U0 50 i) (U0 50 j)) m.toNat) → Pt n X zM53 76 [some (.ref 48), some (.ref q), some (.int x2), some (.int x3)] [] h (qI (fun r h' => wS h' ∧ ∃ U : vS, (∀ (c : Nat) j, c ≠ 51 → U c j = U0 c j) ∧ (∀ i, 0 ≤ i → i < m → U 51 i = nbS (fun j => cMt V (U0 50 i) (U0 50 j) ∧ two V q (U0 50 i) (U0 50 j)) m.toNat) ∧ R60 U (chF U m (2 ^ m.toNat)) m r (vw h'))) := by
  intro n
  induction n with
  | zero => intros; exact pt_z
  | succ n ih =>
    intro h x2 x3 k S h2 h3 hk F G
    have Fv : ∀ (c : Nat) j, c ≠ 50 → c ≠ 51 → vw h c j = V c j := fun c j a b => (F c j b).trans (e0 c j a b)
    refine d53_76 S h2 h3 ⟨fun e => ⟨hm, hm, fun r g R => ⟨R.1, vw h, F, fun i a b => G i a (by omega), R.2⟩⟩, fun e => ⟨⟨⟨⟨by rw [Fv q 1 (by omega) (by omega)]; exact L.1.1, by rw [Fv q 6 (by omega) (by omega)]; exact L.1.2⟩, by rw [Fv q 5 (by omega) (by omega)]; exact L.2⟩, hm.2, ⟨by omega, e⟩, fun j a b => by rw [F 50 j (by decide)]; exact ht j a b⟩, fun _ _ g S2 eg w g3 => ?_⟩⟩
    replace g3 := w_1 g3 (by omega) (by omega)
    refine ih g x2 w (k + 1) S2 h2 (by omega) (by omega) (fun c j a => by rw [eg, up_c a]; exact F c j a) (fun i a b => ?_)
    rw [eg, up_p]
    by_cases z : i = (k : Int)
    · rw [if_pos z, z]
      refine nbS_c (fun j => ?_) _
      rw [F 50 _ (by decide), F 50 j (by decide), cMt_w (V := V) (fun j => Fv 8 j (by decide) (by decide)), two_w hq Fv]
    · rw [if_neg z]
      exact G i a (by omega)
theorem l_53 {X : aX} {V : vS} {q : Nat} (hq : 146 ≤ q) (L : slk V q) (hN : V q 5 ≤ 300) (hn : 0 ≤ V 1 1 ∧ V 1 1 ≤ 150) (h8 : ∀ j, 0 ≤ V 8 j ∧ V 8 j < 2147483648) : ∀ (n : Nat) (h : aH) (x2 x3 : Int32) (k : Nat), wS h → x2.toInt = nQ (TR V q) k → x3.toInt = (k : Int) → (k : Int) ≤ V 1 1 → nQ (TR V q) k ≤ 10 → (∀ (c : Nat) j, c ≠ 50 → vw h c j = V c j) → (∀ b : Nat, b < k → TR V q (b : Nat) → vw h 50 (nQ (TR V q) b) = (b : Nat)) → Pt n X zM53 4 [some (.ref 48), some (.ref q), some (.int x2), some (.int x3)] [] h (qI (fun r h' => wS h' ∧ R53 V q r (vw h'))) := by
  intro n
  induction n with
  | zero => intros; exact pt_z
  | succ n ih =>
    intro h x2 x3 k S h2 h3 hk h10 F G
    obtain ⟨L0, L1, L6, L7, L8, L9, -⟩ := L
    have Fv : ∀ (c : Nat) j, c ≠ 50 → c ≠ 51 → vw h c j = V c j := fun c j a _ => F c j a
    obtain ⟨tc, tl, ts⟩ := TR_w hq Fv (k : Nat)
    have n1 := F 1 1 (by decide)
    have b := nQ_b (TR V q) k
    have skip : (k : Int) < vw h 1 1 → ¬ TR V q (k : Nat) → ∀ w : Int32, w.toInt = w32 ((k : Int) + 1) → Pt n X zM53 4 [some (.ref 48), some (.ref q), some (.int x2), some (.int w)] [] h (qI (fun r h' => wS h' ∧ R53 V q r (vw h'))) := by
      intro e z w g
      replace g := w_1 g (by omega) (by omega)
      refine ih h x2 w (k + 1) S ?_ (by omega) (by omega) ?_ F (fun b' hb r => ?_)
      · rw [nQ_f z, Int.add_zero]; exact h2
      · rw [nQ_f z, Int.add_zero]; exact h10
      · by_cases y : b' = k
        · rw [y] at r
          exact absurd r z
        · exact G b' (by omega) r
    refine d53_4 S h2 h3 ⟨fun e w g => ?_, fun e => ⟨fun z w g => skip e (fun y => z (tc.mpr y.1)) w g, fun z => ⟨⟨⟨by rw [F q 1 (by omega)]; exact L1, by rw [F q 6 (by omega)]; exact L6⟩, by rw [F q 5 (by omega)]; exact hN⟩, fun z2 w g => skip e (fun y => z2 (tl.mpr y.2.1)) w g, fun z2 => ⟨by rw [F q 9 (by omega)]; exact L9, ⟨⟨by omega, by omega⟩, fun j => by rw [F 8 j (by decide)]; exact h8 j⟩, fun z3 w g => skip e (fun y => by have := y.2.2; omega) w g, fun z3 => ⟨fun lt _ _ g S2 eg w2 w3 g2 g3 => ?_, fun ge => ⟨S, ?_⟩⟩⟩⟩⟩⟩
    · have kn : (V 1 1).toNat = k := by omega
      refine pt_q (l_53b (V := V) (U0 := vw h) (m := nQ (TR V q) k) hq ⟨⟨L1, L6⟩, hN⟩ ⟨b.1, h10⟩ Fv (fun j a c => ?_) n h x2 w 0 S h2 g b.1 (fun _ _ _ => rfl) (fun i a c => by omega)) ?_
      · obtain ⟨b', b1, b2, b3⟩ := nQ_inv a k c
        have := G b' b1 b2
        rw [b3] at this
        omega
      · rintro v h' ⟨x, ev, S', U, u1, u2, u3⟩
        refine ⟨x, ev, S', Or.inr ⟨by rw [kn]; exact h10, U, fun c j a d => (u1 c j d).trans (F c j a), fun b' hb r => ?_, ?_, ?_⟩⟩
        · rw [u1 50 _ (by decide)]
          exact G b' (by omega) r
        · rw [kn]
          intro i a c
          rw [u2 i a c]
          refine nbS_c (fun j => ?_) _
          rw [u1 50 i (by decide), u1 50 j (by decide)]
        · rw [kn]
          exact u3
    · have t : TR V q (k : Nat) := ⟨tc.mp z, tl.mp z2, by rw [← ts]; exact z3⟩
      replace g2 := w_1 g2 (by omega) (by omega)
      replace g3 := w_1 g3 (by omega) (by omega)
      refine ih g w2 w3 (k + 1) S2 ?_ (by omega) (by omega) ?_ (fun c j a => by rw [eg, up_c a]; exact F c j a) (fun b' hb r => ?_)
      · rw [nQ_t t]; exact g2
      · rw [nQ_t t]; omega
      · rw [eg, up_p]
        by_cases y : b' = k
        · rw [y, if_pos rfl]
        · have lt2 := nQ_lt (R := TR V q) (show b' < k by omega) r
          rw [if_neg (by omega)]
          exact G b' (by omega) r
    · have t : TR V q (k : Nat) := ⟨tc.mp z, tl.mp z2, by rw [← ts]; exact z3⟩
      have le := nQ_le (R := TR V q) (V 1 1).toNat (show k + 1 ≤ (V 1 1).toNat by omega)
      rw [nQ_t t] at le
      exact Or.inl ⟨by omega, rfl, F⟩
theorem c_53 {n : Nat} {X : aX} {h : aH} {q1 : Nat} (S : wS h) (hp : (146 ≤ q1 ∧ slk (vw h) q1 ∧ vw h q1 5 ≤ 300) ∧ (0 ≤ vw h 1 1 ∧ vw h 1 1 ≤ 150) ∧ ∀ j, 0 ≤ vw h 8 j ∧ vw h 8 j < 2147483648) : Pt n X zM53 0 [some (.ref 48), some (.ref q1), none, none] [] h (qI (fun r h' => wS h' ∧ R53 (vw h) q1 r (vw h'))) :=
  pt_d (d53_0 S (fun w2 w3 g2 g3 => l_53 hp.1.1 hp.1.2.1 hp.1.2.2 hp.2.1 hp.2.2 n h w2 w3 0 S g2 g3 hp.2.1.1 (show (0 : Int) ≤ 10 by decide) (fun _ _ _ => rfl) (fun b hb => absurd hb (Nat.not_lt_zero _))))

theorem d175_0 {n : Nat} {X : aX} {h : aH} {P : Int → aH → Prop} {x1 : Int32} {a1 : Int} (S : wS h) (z1 : x1.toInt = a1) (H : ((¬ (0 ≤ a1 ∧ a1 ≤ 9) → P (-1) h) ∧ ((0 ≤ a1 ∧ a1 ≤ 9) → ((p1 h a1) ∧ ∀ (q8 : Nat) (h_8 : aH), (wS h_8 ∧ R1 h a1 (vw h 1 0) q8 h_8) → (((146 ≤ q8 ∧ slk (vw h_8) q8 ∧ vw h_8 q8 5 ≤ 300) ∧ (0 ≤ vw h_8 1 1 ∧ vw h_8 1 1 ≤ 150) ∧ ∀ j, 0 ≤ vw h_8 8 j ∧ vw h_8 8 j < 2147483648) ∧ ∀ (y9 : Int) (h_9 : aH), (wS h_9 ∧ R53 (vw h_8) q8 y9 (vw h_9)) → P y9 h_9))))) : Pt (n + 1) X zM175 0 [some (.ref 0), some (.int x1)] [] h (qI P) := by
  refine pt_1 (fun n d => r_iloadn gx175_0 rfl) ?_
  refine pt_d (pt_stat (as := [.int x1]) (r := []) gx175_1 rfl (show zmt[139]? = some zM139 from rfl) rfl rfl rfl rfl (c_139 S z1) (kqP (fun v1 h1 => ?_)))
  show Pt _ _ _ 4 _ [.int v1] _ _
  refine pt_d (pt_ifB_eq gx175_4 h1 (fun e2 => ?_) (fun e2 => ?_))
  · have H := H.1 e2
    refine pt_d (pt_iconst gx175_32 (fun v3 h3 => ?_))
    exact pt_d (pt_iret gx175_33 ⟨_, rfl, by rw [h3]; exact H⟩)
  · have H := H.2 e2
    refine pt_d (pt_1 (fun n d => r_aloadn gx175_7 rfl) ?_)
    refine pt_d (pt_getR gx175_8 S tr_0_5 ?_)
    refine pt_d (pt_1 (fun n d => r_aloadn gx175_11 rfl) ?_)
    refine pt_d (pt_getR gx175_12 S tr_0_4 ?_)
    refine pt_d (pt_1 (fun n d => r_iloadn gx175_15 rfl) ?_)
    refine pt_d (pt_1 (fun n d => r_aloadn gx175_16 rfl) ?_)
    refine pt_d (pt_getR gx175_17 S tr_0_0 ?_)
    refine pt_d (pt_getI (B := 0) gx175_20 S (fun v7 h7 => ?_))
    obtain ⟨pr8, H⟩ := H
    refine pt_d (pt_virt (as := [.int x1, .int v7]) (r := [.ref 48]) gx175_23 rfl (show zmt[1]? = some zM1 from rfl) rfl rfl rfl rfl (c_1 S z1 h7 pr8) (kqR (fun q8 h_8 P8 => ?_)))
    have S8 := P8.1
    have H := H q8 h_8 P8
    show Pt _ _ _ 26 _ [.ref q8, .ref 48] _ _
    obtain ⟨pr9, H⟩ := H
    refine pt_d (pt_virt (as := [.ref q8]) (r := []) gx175_26 rfl (show zmt[53]? = some zM53 from rfl) rfl rfl rfl rfl (c_53 S8 pr9) (kqI (fun v9 y9 h_9 h9 P9 => ?_)))
    have S9 := P9.1
    have H := H y9 h_9 P9
    show Pt _ _ _ 29 _ [.int v9] _ _
    refine pt_d (pt_1 (fun n d => r_goto gx175_29) ?_)
    exact pt_d (pt_iret gx175_33 ⟨_, rfl, by rw [h9]; exact H⟩)

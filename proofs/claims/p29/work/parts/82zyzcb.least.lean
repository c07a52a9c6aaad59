-- ===== the least land =====
theorem d54_0 {n : Nat} {X : aX} {h : aH} {P : Int → aH → Prop} {x1 x2 : Int32} {a1 a2 : Int} {q3 : Nat} (S : wS h) (z1 : x1.toInt = a1) (z2 : x2.toInt = a2) (H : (∀ (w4 : Int32) (w5 : Int32), w4.toInt = 0 → w5.toInt = 0 → Pt n X zM54 6 [some (.ref 48), some (.int x1), some (.int x2), some (.ref q3), some (.int w4), some (.int w5)] [] h (qI P))) : Pt (n + 1) X zM54 0 [some (.ref 48), some (.int x1), some (.int x2), some (.ref q3), none, none] [] h (qI P) := by
  refine pt_iconst gx54_0 (fun v1 h1 => ?_)
  refine pt_d (pt_1 (fun n d => r_istore (L' := [some (.ref 48), some (.int x1), some (.int x2), some (.ref q3), some (.int v1), none]) gx54_1 rfl rfl) ?_)
  refine pt_d (pt_iconst gx54_3 (fun v2 h2 => ?_))
  refine pt_d (pt_1 (fun n d => r_istore (L' := [some (.ref 48), some (.int x1), some (.int x2), some (.ref q3), some (.int v1), some (.int v2)]) gx54_4 rfl rfl) ?_)
  exact H v1 v2 h1 h2
theorem d54_6 {n : Nat} {X : aX} {h : aH} {P : Int → aH → Prop} {x1 x2 x4 x5 : Int32} {a1 a2 a4 a5 : Int} {q3 : Nat} (S : wS h) (z1 : x1.toInt = a1) (z2 : x2.toInt = a2) (z4 : x4.toInt = a4) (z5 : x5.toInt = a5) (H : ((a2 ≤ a5 → P a4 h) ∧ (a5 < a2 → (0 ≤ a1 → a1 < 10 → (0 ≤ a5 → a5 < 10 → (((0 ≤ vw h 50 a1 ∧ vw h 50 a1 < 150) ∧ 0 ≤ vw h 50 a5 ∧ vw h 50 a5 < 150) ∧ ((¬ (cMt (vw h) (vw h 50 a1) (vw h 50 a5)) → (∀ (w5 : Int32), w5.toInt = w32 (a5 + 1) → Pt n X zM54 6 [some (.ref 48), some (.int x1), some (.int x2), some (.ref q3), some (.int x4), some (.int w5)] [] h (qI P))) ∧ ((cMt (vw h) (vw h 50 a1) (vw h 50 a5)) → (((vw h q3 1 = ((16 : Nat) : Int) ∧ vw h q3 6 = ((q3 + 1 : Nat) : Int)) ∧ vw h q3 5 ≤ 300) ∧ ((¬ (two (vw h) q3 (vw h 50 a1) (vw h 50 a5)) → (∀ (w5 : Int32), w5.toInt = w32 (a5 + 1) → Pt n X zM54 6 [some (.ref 48), some (.int x1), some (.int x2), some (.ref q3), some (.int x4), some (.int w5)] [] h (qI P))) ∧ ((two (vw h) q3 (vw h 50 a1) (vw h 50 a5)) → (∀ (w4 : Int32) (w5 : Int32), w4.toInt = bOr a4 (bShl 1 a5) → w5.toInt = w32 (a5 + 1) → Pt n X zM54 6 [some (.ref 48), some (.int x1), some (.int x2), some (.ref q3), some (.int w4), some (.int w5)] [] h (qI P))))))))))))) : Pt (n + 1) X zM54 6 [some (.ref 48), some (.int x1), some (.int x2), some (.ref q3), some (.int x4), some (.int x5)] [] h (qI P) := by
  refine pt_1 (fun n d => r_iload gx54_6 rfl) ?_
  refine pt_d (pt_1 (fun n d => r_iloadn gx54_8 rfl) ?_)
  refine pt_d (pt_icmp_ge gx54_9 z5 z2 (fun e1 => ?_) (fun e1 => ?_))
  · have H := H.1 e1
    refine pt_d (pt_1 (fun n d => r_iload gx54_70 rfl) ?_)
    exact pt_d (pt_iret gx54_72 ⟨_, rfl, by rw [z4]; exact H⟩)
  · have H := H.2 e1
    refine pt_d (pt_1 (fun n d => r_aloadn gx54_12 rfl) ?_)
    refine pt_d (pt_getR gx54_13 S tr_48_0 ?_)
    refine pt_d (pt_1 (fun n d => r_aloadn gx54_16 rfl) ?_)
    refine pt_d (pt_getR gx54_17 S tr_48_5 ?_)
    refine pt_d (pt_1 (fun n d => r_iloadn gx54_20 rfl) ?_)
    refine pt_d (pt_iald (N' := 10) gx54_21 S tl_50 z1 (fun v4 p4 q4 h4 => ?_))
    have H := H p4 q4
    refine pt_d (pt_1 (fun n d => r_aloadn gx54_22 rfl) ?_)
    refine pt_d (pt_getR gx54_23 S tr_48_5 ?_)
    refine pt_d (pt_1 (fun n d => r_iload gx54_26 rfl) ?_)
    refine pt_d (pt_iald (N' := 10) gx54_28 S tl_50 z5 (fun v6 p6 q6 h6 => ?_))
    have H := H p6 q6
    obtain ⟨pr7, H⟩ := H
    refine pt_d (pt_virt (as := [.int v4, .int v6]) (r := []) gx54_29 rfl (show zmt[84]? = some zM84 from rfl) rfl rfl rfl rfl (c_84 S h4 h6 pr7) (kqP (fun v7 h7 => ?_)))
    show Pt _ _ _ 32 _ [.int v7] _ _
    refine pt_d (pt_ifB_eq gx54_32 h7 (fun e8 => ?_) (fun e8 => ?_))
    · have H := H.1 e8
      refine pt_d (pt_iinc (c := 1) gx54_64 rfl z5 (fun v9 h9 => ?_))
      show Pt _ _ _ _ [some (.ref 48), some (.int x1), some (.int x2), some (.ref q3), some (.int x4), some (.int v9)] [] _ _
      refine pt_d (pt_1 (fun n d => r_goto gx54_67) ?_)
      exact H v9 h9
    · have H := H.2 e8
      refine pt_d (pt_1 (fun n d => r_aloadn gx54_35 rfl) ?_)
      refine pt_d (pt_getR gx54_36 S tr_48_5 ?_)
      refine pt_d (pt_1 (fun n d => r_iloadn gx54_39 rfl) ?_)
      refine pt_d (pt_iald (N' := 10) gx54_40 S tl_50 z1 (fun v11 p11 q11 h11 => ?_))
      refine pt_d (pt_1 (fun n d => r_aloadn gx54_41 rfl) ?_)
      refine pt_d (pt_getR gx54_42 S tr_48_5 ?_)
      refine pt_d (pt_1 (fun n d => r_iload gx54_45 rfl) ?_)
      refine pt_d (pt_iald (N' := 10) gx54_47 S tl_50 z5 (fun v13 p13 q13 h13 => ?_))
      refine pt_d (pt_1 (fun n d => r_aloadn gx54_48 rfl) ?_)
      obtain ⟨pr14, H⟩ := H
      refine pt_d (pt_stat (as := [.int v11, .int v13, .ref q3]) (r := []) gx54_49 rfl (show zmt[55]? = some zM55 from rfl) rfl rfl rfl rfl (c_55 S h11 h13 pr14) (kqP (fun v14 h14 => ?_)))
      show Pt _ _ _ 52 _ [.int v14] _ _
      refine pt_d (pt_ifB_eq gx54_52 h14 (fun e15 => ?_) (fun e15 => ?_))
      · have H := H.1 e15
        refine pt_d (pt_iinc (c := 1) gx54_64 rfl z5 (fun v16 h16 => ?_))
        show Pt _ _ _ _ [some (.ref 48), some (.int x1), some (.int x2), some (.ref q3), some (.int x4), some (.int v16)] [] _ _
        refine pt_d (pt_1 (fun n d => r_goto gx54_67) ?_)
        exact H v16 h16
      · have H := H.2 e15
        refine pt_d (pt_1 (fun n d => r_iload gx54_55 rfl) ?_)
        refine pt_d (pt_iconst gx54_57 (fun v17 h17 => ?_))
        refine pt_d (pt_1 (fun n d => r_iload gx54_58 rfl) ?_)
        refine pt_d (pt_ishl gx54_60 h17 z5 (fun v18 h18 => ?_))
        refine pt_d (pt_ior gx54_61 z4 h18 (fun v19 h19 => ?_))
        refine pt_d (pt_1 (fun n d => r_istore (L' := [some (.ref 48), some (.int x1), some (.int x2), some (.ref q3), some (.int v19), some (.int x5)]) gx54_62 rfl rfl) ?_)
        refine pt_d (pt_iinc (c := 1) gx54_64 rfl z5 (fun v20 h20 => ?_))
        show Pt _ _ _ _ [some (.ref 48), some (.int x1), some (.int x2), some (.ref q3), some (.int v19), some (.int v20)] [] _ _
        refine pt_d (pt_1 (fun n d => r_goto gx54_67) ?_)
        exact H v19 v20 h19 h20
noncomputable def nbS (R : Int → Prop) : Nat → Int
  | 0 => 0
  | j + 1 => @ite Int (R (j : Nat)) (Classical.propDecidable _) (bOr (nbS R j) (bShl 1 (j : Nat))) (nbS R j)
theorem nbS_t {R : Int → Prop} {j : Nat} (h : R (j : Nat)) : nbS R (j + 1) = bOr (nbS R j) (bShl 1 (j : Nat)) := if_pos h
theorem nbS_f {R : Int → Prop} {j : Nat} (h : ¬ R (j : Nat)) : nbS R (j + 1) = nbS R j := if_neg h
theorem nbS_b {R : Int → Prop} {x : Nat} (hx : x < 32) : ∀ n : Nat, n ≤ 24 → (tb (nbS R n) x = true ↔ x < n ∧ R (x : Nat))
  | 0, _ => by
    have : tb (nbS R 0) x = false := tb_0 hx
    rw [this]
    exact ⟨fun z => (by cases z), fun z => absurd z.1 (Nat.not_lt_zero _)⟩
  | n + 1, hn => by
    have ih := nbS_b (R := R) hx n (by omega)
    by_cases z : R (n : Nat)
    · rw [nbS_t z, tb_or, Bool.or_eq_true, ih, tb_1 ⟨n, by omega⟩ ⟨x, hx⟩, decide_eq_true_eq]
      constructor
      · rintro (⟨a, b⟩ | a)
        · exact ⟨by omega, b⟩
        · have a : x = n := a
          exact ⟨by omega, by rw [a]; exact z⟩
      · rintro ⟨a, b⟩
        by_cases y : x = n
        · exact Or.inr y
        · exact Or.inl ⟨by omega, b⟩
    · rw [nbS_f z, ih]
      constructor
      · rintro ⟨a, b⟩
        exact ⟨by omega, b⟩
      · rintro ⟨a, b⟩
        refine ⟨?_, b⟩
        by_cases y : x = n
        · rw [y] at b
          exact absurd b z
        · omega
theorem l_54 {X : aX} {h : aH} {i m : Int} {q : Nat} (S : wS h) (L : (vw h q 1 = ((16 : Nat) : Int) ∧ vw h q 6 = ((q + 1 : Nat) : Int)) ∧ vw h q 5 ≤ 300) (hm : m ≤ 10) (hi : 0 ≤ i ∧ i < m) (ht : ∀ j, 0 ≤ j → j < m → 0 ≤ vw h 50 j ∧ vw h 50 j < 150) : ∀ (n : Nat) (x1 x2 x4 x5 : Int32) (k : Nat), x1.toInt = i → x2.toInt = m → x4.toInt = nbS (fun j => cMt (vw h) (vw h 50 i) (vw h 50 j) ∧ two (vw h) q (vw h 50 i) (vw h 50 j)) k → x5.toInt = (k : Int) → (k : Int) ≤ m → Pt n X zM54 6 [some (.ref 48), some (.int x1), some (.int x2), some (.ref q), some (.int x4), some (.int x5)] [] h (qI (fun r h' => h' = h ∧ r = nbS (fun j => cMt (vw h) (vw h 50 i) (vw h 50 j) ∧ two (vw h) q (vw h 50 i) (vw h 50 j)) m.toNat)) := by
  intro n
  induction n with
  | zero => intros; exact pt_z
  | succ n ih =>
    intro x1 x2 x4 x5 k h1 h2 h4 h5 hk
    have skip : (k : Int) < m → ¬ (cMt (vw h) (vw h 50 i) (vw h 50 (k : Nat)) ∧ two (vw h) q (vw h 50 i) (vw h 50 (k : Nat))) → ∀ w : Int32, w.toInt = w32 ((k : Int) + 1) → Pt n X zM54 6 [some (.ref 48), some (.int x1), some (.int x2), some (.ref q), some (.int x4), some (.int w)] [] h (qI (fun r h' => h' = h ∧ r = nbS (fun j => cMt (vw h) (vw h 50 i) (vw h 50 j) ∧ two (vw h) q (vw h 50 i) (vw h 50 j)) m.toNat)) := by
      intro e z w g
      replace g := w_1 g (by omega) (by omega)
      refine ih x1 x2 x4 w (k + 1) h1 h2 ?_ (by omega) (by omega)
      rw [nbS_f (R := fun j => cMt (vw h) (vw h 50 i) (vw h 50 j) ∧ two (vw h) q (vw h 50 i) (vw h 50 j)) z]
      exact h4
    refine d54_6 S h1 h2 h4 h5 ⟨fun e => ⟨rfl, ?_⟩, fun e _ _ _ _ => ⟨⟨ht i hi.1 hi.2, ht (k : Nat) (by omega) e⟩, fun z w g => skip e (fun y => z y.1) w g, fun z => ⟨L, fun z2 w g => skip e (fun y => z2 y.2) w g, fun z2 w4 w5 g4 g5 => ?_⟩⟩⟩
    · rw [show m.toNat = k by omega]
    · replace g5 := w_1 g5 (by omega) (by omega)
      refine ih x1 x2 w4 w5 (k + 1) h1 h2 ?_ (by omega) (by omega)
      rw [nbS_t (R := fun j => cMt (vw h) (vw h 50 i) (vw h 50 j) ∧ two (vw h) q (vw h 50 i) (vw h 50 j)) ⟨z, z2⟩, g4]
theorem c_54 {n : Nat} {X : aX} {h : aH} {x1 x2 : Int32} {a1 a2 : Int} {q3 : Nat} (S : wS h) (z1 : x1.toInt = a1) (z2 : x2.toInt = a2) (hp : ((vw h q3 1 = ((16 : Nat) : Int) ∧ vw h q3 6 = ((q3 + 1 : Nat) : Int)) ∧ vw h q3 5 ≤ 300) ∧ a2 ≤ 10 ∧ (0 ≤ a1 ∧ a1 < a2) ∧ ∀ j, 0 ≤ j → j < a2 → 0 ≤ vw h 50 j ∧ vw h 50 j < 150) : Pt n X zM54 0 [some (.ref 48), some (.int x1), some (.int x2), some (.ref q3), none, none] [] h (qI (fun r h' => h' = h ∧ r = nbS (fun j => cMt (vw h) (vw h 50 a1) (vw h 50 j) ∧ two (vw h) q3 (vw h 50 a1) (vw h 50 j)) a2.toNat)) :=
  pt_d (d54_0 S z1 z2 (fun w4 w5 g4 g5 => l_54 S hp.1 hp.2.1 hp.2.2.1 hp.2.2.2 n x1 x2 w4 w5 0 z1 z2 g4 g5 (by have := hp.2.2.1; omega)))

theorem d57_0 {n : Nat} {X : aX} {h : aH} {P : Int → aH → Prop} {x1 x2 : Int32} {a1 a2 : Int} (S : wS h) (z1 : x1.toInt = a1) (z2 : x2.toInt = a2) (H : (∀ (w3 : Int32), w3.toInt = 0 → Pt n X zM57 2 [some (.ref 48), some (.int x1), some (.int x2), some (.int w3)] [] h (qI P))) : Pt (n + 1) X zM57 0 [some (.ref 48), some (.int x1), some (.int x2), none] [] h (qI P) := by
  refine pt_iconst gx57_0 (fun v1 h1 => ?_)
  refine pt_d (pt_1 (fun n d => r_istoren (L' := [some (.ref 48), some (.int x1), some (.int x2), some (.int v1)]) gx57_1 rfl rfl) ?_)
  exact H v1 h1
theorem d57_2 {n : Nat} {X : aX} {h : aH} {P : Int → aH → Prop} {x1 x2 x3 : Int32} {a1 a2 a3 : Int} (S : wS h) (z1 : x1.toInt = a1) (z2 : x2.toInt = a2) (z3 : x3.toInt = a3) (H : ((a2 ≤ a3 → P 1 h) ∧ (a3 < a2 → ((bAnd (bShr a1 a3) 1 ≠ 0 → (∀ (w3 : Int32), w3.toInt = w32 (a3 + 1) → Pt n X zM57 2 [some (.ref 48), some (.int x1), some (.int x2), some (.int w3)] [] h (qI P))) ∧ (bAnd (bShr a1 a3) 1 = 0 → (0 ≤ a3 → a3 < 10 → ((bAnd (vw h 51 a3) (bXor a1 (-1)) = 0 → (∀ (w3 : Int32), w3.toInt = w32 (a3 + 1) → Pt n X zM57 2 [some (.ref 48), some (.int x1), some (.int x2), some (.int w3)] [] h (qI P))) ∧ (bAnd (vw h 51 a3) (bXor a1 (-1)) ≠ 0 → P 0 h)))))))) : Pt (n + 1) X zM57 2 [some (.ref 48), some (.int x1), some (.int x2), some (.int x3)] [] h (qI P) := by
  refine pt_1 (fun n d => r_iloadn gx57_2 rfl) ?_
  refine pt_d (pt_1 (fun n d => r_iloadn gx57_3 rfl) ?_)
  refine pt_d (pt_icmp_ge gx57_4 z3 z2 (fun e1 => ?_) (fun e1 => ?_))
  · have H := H.1 e1
    refine pt_d (pt_iconst gx57_36 (fun v2 h2 => ?_))
    exact pt_d (pt_iret gx57_37 ⟨_, rfl, by rw [h2]; exact H⟩)
  · have H := H.2 e1
    refine pt_d (pt_1 (fun n d => r_iloadn gx57_7 rfl) ?_)
    refine pt_d (pt_1 (fun n d => r_iloadn gx57_8 rfl) ?_)
    refine pt_d (pt_ishr gx57_9 z1 z3 (fun v3 h3 => ?_))
    refine pt_d (pt_iconst gx57_10 (fun v4 h4 => ?_))
    refine pt_d (pt_iand gx57_11 h3 h4 (fun v5 h5 => ?_))
    refine pt_d (pt_if_ne gx57_12 h5 (fun e6 => ?_) (fun e6 => ?_))
    · have H := H.1 e6
      refine pt_d (pt_iinc (c := 1) gx57_30 rfl z3 (fun v7 h7 => ?_))
      show Pt _ _ _ _ [some (.ref 48), some (.int x1), some (.int x2), some (.int v7)] [] _ _
      refine pt_d (pt_1 (fun n d => r_goto gx57_33) ?_)
      exact H v7 h7
    · have H := H.2 e6
      refine pt_d (pt_1 (fun n d => r_aloadn gx57_15 rfl) ?_)
      refine pt_d (pt_getR gx57_16 S tr_48_6 ?_)
      refine pt_d (pt_1 (fun n d => r_iloadn gx57_19 rfl) ?_)
      refine pt_d (pt_iald (N' := 10) gx57_20 S tl_51 z3 (fun v9 p9 q9 h9 => ?_))
      have H := H p9 q9
      refine pt_d (pt_1 (fun n d => r_iloadn gx57_21 rfl) ?_)
      refine pt_d (pt_iconst gx57_22 (fun v10 h10 => ?_))
      refine pt_d (pt_ixor gx57_23 z1 h10 (fun v11 h11 => ?_))
      refine pt_d (pt_iand gx57_24 h9 h11 (fun v12 h12 => ?_))
      refine pt_d (pt_if_eq gx57_25 h12 (fun e13 => ?_) (fun e13 => ?_))
      · have H := H.1 e13
        refine pt_d (pt_iinc (c := 1) gx57_30 rfl z3 (fun v14 h14 => ?_))
        show Pt _ _ _ _ [some (.ref 48), some (.int x1), some (.int x2), some (.int v14)] [] _ _
        refine pt_d (pt_1 (fun n d => r_goto gx57_33) ?_)
        exact H v14 h14
      · have H := H.2 e13
        refine pt_d (pt_iconst gx57_28 (fun v15 h15 => ?_))
        exact pt_d (pt_iret gx57_29 ⟨_, rfl, by rw [h15]; exact H⟩)
theorem d59_0 {n : Nat} {X : aX} {h : aH} {P : Int → aH → Prop} {x1 x2 : Int32} {a1 a2 : Int} (S : wS h) (z1 : x1.toInt = a1) (z2 : x2.toInt = a2) (H : (∀ (w3 : Int32) (w4 : Int32), w3.toInt = 0 → w4.toInt = 0 → Pt n X zM59 5 [some (.ref 48), some (.int x1), some (.int x2), some (.int w3), some (.int w4)] [] h (qI P))) : Pt (n + 1) X zM59 0 [some (.ref 48), some (.int x1), some (.int x2), none, none] [] h (qI P) := by
  refine pt_iconst gx59_0 (fun v1 h1 => ?_)
  refine pt_d (pt_1 (fun n d => r_istoren (L' := [some (.ref 48), some (.int x1), some (.int x2), some (.int v1), none]) gx59_1 rfl rfl) ?_)
  refine pt_d (pt_iconst gx59_2 (fun v2 h2 => ?_))
  refine pt_d (pt_1 (fun n d => r_istore (L' := [some (.ref 48), some (.int x1), some (.int x2), some (.int v1), some (.int v2)]) gx59_3 rfl rfl) ?_)
  exact H v1 v2 h1 h2
theorem d59_5 {n : Nat} {X : aX} {h : aH} {P : Int → aH → Prop} {x1 x2 x3 x4 : Int32} {a1 a2 a3 a4 : Int} (S : wS h) (z1 : x1.toInt = a1) (z2 : x2.toInt = a2) (z3 : x3.toInt = a3) (z4 : x4.toInt = a4) (H : ((a2 ≤ a4 → P a3 h) ∧ (a4 < a2 → (0 ≤ a4 → a4 < 10 → (0 ≤ vw h 50 a4 → vw h 50 a4 < 150 → (∀ (w3 : Int32) (w4 : Int32), w3.toInt = w32 (a3 + (w32 ((bAnd (bShr a1 a4) 1) * (vw h 3 (vw h 50 a4))))) → w4.toInt = w32 (a4 + 1) → Pt n X zM59 5 [some (.ref 48), some (.int x1), some (.int x2), some (.int w3), some (.int w4)] [] h (qI P))))))) : Pt (n + 1) X zM59 5 [some (.ref 48), some (.int x1), some (.int x2), some (.int x3), some (.int x4)] [] h (qI P) := by
  refine pt_1 (fun n d => r_iload gx59_5 rfl) ?_
  refine pt_d (pt_1 (fun n d => r_iloadn gx59_7 rfl) ?_)
  refine pt_d (pt_icmp_ge gx59_8 z4 z2 (fun e1 => ?_) (fun e1 => ?_))
  · have H := H.1 e1
    refine pt_d (pt_1 (fun n d => r_iloadn gx59_42 rfl) ?_)
    exact pt_d (pt_iret gx59_43 ⟨_, rfl, by rw [z3]; exact H⟩)
  · have H := H.2 e1
    refine pt_d (pt_1 (fun n d => r_iloadn gx59_11 rfl) ?_)
    refine pt_d (pt_1 (fun n d => r_iloadn gx59_12 rfl) ?_)
    refine pt_d (pt_1 (fun n d => r_iload gx59_13 rfl) ?_)
    refine pt_d (pt_ishr gx59_15 z1 z4 (fun v2 h2 => ?_))
    refine pt_d (pt_iconst gx59_16 (fun v3 h3 => ?_))
    refine pt_d (pt_iand gx59_17 h2 h3 (fun v4 h4 => ?_))
    refine pt_d (pt_1 (fun n d => r_aloadn gx59_18 rfl) ?_)
    refine pt_d (pt_getR gx59_19 S tr_48_0 ?_)
    refine pt_d (pt_getR gx59_22 S tr_1_8 ?_)
    refine pt_d (pt_1 (fun n d => r_aloadn gx59_25 rfl) ?_)
    refine pt_d (pt_getR gx59_26 S tr_48_5 ?_)
    refine pt_d (pt_1 (fun n d => r_iload gx59_29 rfl) ?_)
    refine pt_d (pt_iald (N' := 10) gx59_31 S tl_50 z4 (fun v8 p8 q8 h8 => ?_))
    have H := H p8 q8
    refine pt_d (pt_iald (N' := 150) gx59_32 S tl_3 h8 (fun v9 p9 q9 h9 => ?_))
    have H := H p9 q9
    refine pt_d (pt_imul gx59_33 h4 h9 (fun v10 h10 => ?_))
    refine pt_d (pt_iadd gx59_34 z3 h10 (fun v11 h11 => ?_))
    refine pt_d (pt_1 (fun n d => r_istoren (L' := [some (.ref 48), some (.int x1), some (.int x2), some (.int v11), some (.int x4)]) gx59_35 rfl rfl) ?_)
    refine pt_d (pt_iinc (c := 1) gx59_36 rfl z4 (fun v12 h12 => ?_))
    show Pt _ _ _ _ [some (.ref 48), some (.int x1), some (.int x2), some (.int v11), some (.int v12)] [] _ _
    refine pt_d (pt_1 (fun n d => r_goto gx59_39) ?_)
    exact H v11 v12 h11 h12
def endA (V : vS) (s n : Int) : Prop := ∀ i, 0 ≤ i → i < n → bAnd (bShr s i) 1 = 0 → bAnd (V 51 i) (bXor s (-1)) = 0
theorem l_57 {X : aX} {h : aH} {s m : Int} (S : wS h) (hm : m ≤ 10) : ∀ (n : Nat) (x1 x2 x3 : Int32) (k : Int), x1.toInt = s → x2.toInt = m → x3.toInt = k → 0 ≤ k → (∀ i, 0 ≤ i → i < k → bAnd (bShr s i) 1 = 0 → bAnd (vw h 51 i) (bXor s (-1)) = 0) → Pt n X zM57 2 [some (.ref 48), some (.int x1), some (.int x2), some (.int x3)] [] h (qI (fun r h' => h' = h ∧ r = bI (endA (vw h) s m))) := by
  intro n
  induction n with
  | zero => intros; exact pt_z
  | succ n ih =>
    intro x1 x2 x3 k h1 h2 h3 k0 al
    have next : k < m → (bAnd (bShr s k) 1 = 0 → bAnd (vw h 51 k) (bXor s (-1)) = 0) → ∀ w : Int32, w.toInt = w32 (k + 1) → Pt n X zM57 2 [some (.ref 48), some (.int x1), some (.int x2), some (.int w)] [] h (qI (fun r h' => h' = h ∧ r = bI (endA (vw h) s m))) := by
      intro e z w g
      replace g := w_1 g (by omega) (by omega)
      refine ih x1 x2 w (k + 1) h1 h2 g (by omega) (fun i a c => ?_)
      by_cases y : i = k
      · rw [y]
        exact z
      · exact al i a (by omega)
    exact d57_2 S h1 h2 h3 ⟨fun e => ⟨rfl, (bI_t (fun i a c => al i a (by omega))).symm⟩, fun e => ⟨fun z w g => next e (fun y => absurd y z) w g, fun z _ _ => ⟨fun z2 w g => next e (fun _ => z2) w g, fun z2 => ⟨rfl, (bI_f (fun y => z2 (y k k0 e z))).symm⟩⟩⟩⟩
theorem c_57 {n : Nat} {X : aX} {h : aH} {x1 x2 : Int32} {a1 a2 : Int} (S : wS h) (z1 : x1.toInt = a1) (z2 : x2.toInt = a2) (hp : a2 ≤ 10) : Pt n X zM57 0 [some (.ref 48), some (.int x1), some (.int x2), none] [] h (qI (fun r h' => h' = h ∧ r = bI (endA (vw h) a1 a2))) :=
  pt_d (d57_0 S z1 z2 (fun w g => l_57 S hp n x1 x2 w 0 z1 z2 g (Int.le_refl _) (fun i a c => by omega)))
def arN (V : vS) (s : Int) : Nat → Int
  | 0 => 0
  | i + 1 => w32 (arN V s i + w32 (bAnd (bShr s (i : Nat)) 1 * V 3 (V 50 (i : Nat))))
theorem l_59 {X : aX} {h : aH} {s m : Int} (S : wS h) (hm : m ≤ 10) : ∀ (n : Nat) (x1 x2 x3 x4 : Int32) (k : Nat), x1.toInt = s → x2.toInt = m → x3.toInt = arN (vw h) s k → x4.toInt = (k : Int) → (k = 0 ∨ (k : Int) ≤ m) → Pt n X zM59 5 [some (.ref 48), some (.int x1), some (.int x2), some (.int x3), some (.int x4)] [] h (qI (fun r h' => h' = h ∧ r = arN (vw h) s m.toNat)) := by
  intro n
  induction n with
  | zero => intros; exact pt_z
  | succ n ih =>
    intro x1 x2 x3 x4 k h1 h2 h3 h4 hk
    refine d59_5 S h1 h2 h3 h4 ⟨fun e => ⟨rfl, ?_⟩, fun e _ _ _ _ w3 w4 g3 g4 => ?_⟩
    · rw [show m.toNat = k by omega]
    · replace g4 := w_1 g4 (by omega) (by omega)
      exact ih x1 x2 w3 w4 (k + 1) h1 h2 g3 (by omega) (Or.inr (by omega))
theorem c_59 {n : Nat} {X : aX} {h : aH} {x1 x2 : Int32} {a1 a2 : Int} (S : wS h) (z1 : x1.toInt = a1) (z2 : x2.toInt = a2) (hp : a2 ≤ 10) : Pt n X zM59 0 [some (.ref 48), some (.int x1), some (.int x2), none, none] [] h (qI (fun r h' => h' = h ∧ r = arN (vw h) a1 a2.toNat)) :=
  pt_d (d59_0 S z1 z2 (fun w3 w4 g3 g4 => l_59 S hp n x1 x2 w3 w4 0 z1 z2 g3 g4 (Or.inl rfl)))

theorem d328_0 {n : Nat} {X : aX} {h : aH} {P : Int → aH → Prop} {x0 x1 : Int32} {a0 a1 : Int} (S : wS h) (z0 : x0.toInt = a0) (z1 : x1.toInt = a1) (H : ((a1 ≤ a0 → ((a0 ≠ a1 → P 1 h) ∧ (a0 = a1 → P 0 h))) ∧ (a0 < a1 → P (-1) h))) : Pt (n + 1) X zM328 0 [some (.int x0), some (.int x1)] [] h (qI P) := by
  refine pt_1 (fun n d => r_iloadn gx328_0 rfl) ?_
  refine pt_d (pt_1 (fun n d => r_iloadn gx328_1 rfl) ?_)
  refine pt_d (pt_icmp_ge gx328_2 z0 z1 (fun e1 => ?_) (fun e1 => ?_))
  · have H := H.1 e1
    refine pt_d (pt_1 (fun n d => r_iloadn gx328_9 rfl) ?_)
    refine pt_d (pt_1 (fun n d => r_iloadn gx328_10 rfl) ?_)
    refine pt_d (pt_icmp_ne gx328_11 z0 z1 (fun e2 => ?_) (fun e2 => ?_))
    · have H := H.1 e2
      refine pt_d (pt_iconst gx328_18 (fun v3 h3 => ?_))
      exact pt_d (pt_iret gx328_19 ⟨_, rfl, by rw [h3]; exact H⟩)
    · have H := H.2 e2
      refine pt_d (pt_iconst gx328_14 (fun v4 h4 => ?_))
      refine pt_d (pt_1 (fun n d => r_goto gx328_15) ?_)
      exact pt_d (pt_iret gx328_19 ⟨_, rfl, by rw [h4]; exact H⟩)
  · have H := H.2 e1
    refine pt_d (pt_iconst gx328_5 (fun v5 h5 => ?_))
    refine pt_d (pt_1 (fun n d => r_goto gx328_6) ?_)
    exact pt_d (pt_iret gx328_19 ⟨_, rfl, by rw [h5]; exact H⟩)
def icm (a b : Int) : Int := if a < b then -1 else if a = b then 0 else 1
theorem c_328 {n : Nat} {X : aX} {h : aH} {x0 x1 : Int32} {a0 a1 : Int} (S : wS h) (z0 : x0.toInt = a0) (z1 : x1.toInt = a1) : Pt n X zM328 0 [some (.int x0), some (.int x1)] [] h (qI (fun r h' => h' = h ∧ r = icm a0 a1)) := by
  refine pt_d (d328_0 S z0 z1 ⟨fun e => ⟨fun e2 => ⟨rfl, ?_⟩, fun e2 => ⟨rfl, ?_⟩⟩, fun e => ⟨rfl, ?_⟩⟩)
  · unfold icm
    rw [if_neg (by omega), if_neg e2]
  · unfold icm
    rw [if_neg (by omega), if_pos e2]
  · unfold icm
    rw [if_pos e]

theorem d58_0 {n : Nat} {X : aX} {h : aH} {P : Int → aH → Prop} {x1 x2 x3 : Int32} {a1 a2 a3 : Int} (S : wS h) (z1 : x1.toInt = a1) (z2 : x2.toInt = a2) (z3 : x3.toInt = a3) (H : ((a3 ≤ 10) ∧ ((a3 ≤ 10) ∧ ((arN (vw h) a1 (a3).toNat = arN (vw h) a2 (a3).toNat → (((0 : Int) ≤ a1) ∧ (((0 : Int) ≤ a2) ∧ ((icm (bcn (tb a1) 32) (bcn (tb a2) 32) = 0 → ((a2 ≤ a1 → P 0 h) ∧ (a1 < a2 → P 1 h))) ∧ (icm (bcn (tb a1) 32) (bcn (tb a2) 32) ≠ 0 → ((0 ≤ icm (bcn (tb a1) 32) (bcn (tb a2) 32) → P 0 h) ∧ (icm (bcn (tb a1) 32) (bcn (tb a2) 32) < 0 → P 1 h))))))) ∧ (arN (vw h) a1 (a3).toNat ≠ arN (vw h) a2 (a3).toNat → ((arN (vw h) a2 (a3).toNat ≤ arN (vw h) a1 (a3).toNat → P 0 h) ∧ (arN (vw h) a1 (a3).toNat < arN (vw h) a2 (a3).toNat → P 1 h))))))) : Pt (n + 1) X zM58 0 [some (.ref 48), some (.int x1), some (.int x2), some (.int x3), none, none, none] [] h (qI P) := by
  refine pt_1 (fun n d => r_aloadn gx58_0 rfl) ?_
  refine pt_d (pt_1 (fun n d => r_iloadn gx58_1 rfl) ?_)
  refine pt_d (pt_1 (fun n d => r_iloadn gx58_2 rfl) ?_)
  obtain ⟨pr1, H⟩ := H
  refine pt_d (pt_virt (as := [.int x1, .int x3]) (r := []) gx58_3 rfl (show zmt[59]? = some zM59 from rfl) rfl rfl rfl rfl (c_59 S z1 z3 pr1) (kqP (fun v1 h1 => ?_)))
  show Pt _ _ _ 6 _ [.int v1] _ _
  refine pt_d (pt_1 (fun n d => r_istore (L' := [some (.ref 48), some (.int x1), some (.int x2), some (.int x3), some (.int v1), none, none]) gx58_6 rfl rfl) ?_)
  refine pt_d (pt_1 (fun n d => r_aloadn gx58_8 rfl) ?_)
  refine pt_d (pt_1 (fun n d => r_iloadn gx58_9 rfl) ?_)
  refine pt_d (pt_1 (fun n d => r_iloadn gx58_10 rfl) ?_)
  obtain ⟨pr2, H⟩ := H
  refine pt_d (pt_virt (as := [.int x2, .int x3]) (r := []) gx58_11 rfl (show zmt[59]? = some zM59 from rfl) rfl rfl rfl rfl (c_59 S z2 z3 pr2) (kqP (fun v2 h2 => ?_)))
  show Pt _ _ _ 14 _ [.int v2] _ _
  refine pt_d (pt_1 (fun n d => r_istore (L' := [some (.ref 48), some (.int x1), some (.int x2), some (.int x3), some (.int v1), some (.int v2), none]) gx58_14 rfl rfl) ?_)
  refine pt_d (pt_1 (fun n d => r_iload gx58_16 rfl) ?_)
  refine pt_d (pt_1 (fun n d => r_iload gx58_18 rfl) ?_)
  refine pt_d (pt_icmp_eq gx58_20 h1 h2 (fun e3 => ?_) (fun e3 => ?_))
  · have H := H.1 e3
    refine pt_d (pt_1 (fun n d => r_iloadn gx58_36 rfl) ?_)
    obtain ⟨pr4, H⟩ := H
    refine pt_d (pt_stat (as := [.int x1]) (r := []) gx58_37 rfl (show zmt[329]? = some zM329 from rfl) rfl rfl rfl rfl (c_329 S z1 pr4) (kqP (fun v4 h4 => ?_)))
    show Pt _ _ _ 40 _ [.int v4] _ _
    refine pt_d (pt_1 (fun n d => r_iloadn gx58_40 rfl) ?_)
    obtain ⟨pr5, H⟩ := H
    refine pt_d (pt_stat (as := [.int x2]) (r := [.int v4]) gx58_41 rfl (show zmt[329]? = some zM329 from rfl) rfl rfl rfl rfl (c_329 S z2 pr5) (kqP (fun v5 h5 => ?_)))
    show Pt _ _ _ 44 _ [.int v5, .int v4] _ _
    refine pt_d (pt_stat (as := [.int v4, .int v5]) (r := []) gx58_44 rfl (show zmt[328]? = some zM328 from rfl) rfl rfl rfl rfl (c_328 S h4 h5) (kqP (fun v6 h6 => ?_)))
    show Pt _ _ _ 47 _ [.int v6] _ _
    refine pt_d (pt_1 (fun n d => r_istore (L' := [some (.ref 48), some (.int x1), some (.int x2), some (.int x3), some (.int v1), some (.int v2), some (.int v6)]) gx58_47 rfl rfl) ?_)
    refine pt_d (pt_1 (fun n d => r_iload gx58_49 rfl) ?_)
    refine pt_d (pt_if_eq gx58_51 h6 (fun e7 => ?_) (fun e7 => ?_))
    · have H := H.1 e7
      refine pt_d (pt_1 (fun n d => r_iloadn gx58_67 rfl) ?_)
      refine pt_d (pt_1 (fun n d => r_iloadn gx58_68 rfl) ?_)
      refine pt_d (pt_icmp_ge gx58_69 z1 z2 (fun e8 => ?_) (fun e8 => ?_))
      · have H := H.1 e8
        refine pt_d (pt_iconst gx58_76 (fun v9 h9 => ?_))
        exact pt_d (pt_iret gx58_77 ⟨_, rfl, by rw [h9]; exact H⟩)
      · have H := H.2 e8
        refine pt_d (pt_iconst gx58_72 (fun v10 h10 => ?_))
        refine pt_d (pt_1 (fun n d => r_goto gx58_73) ?_)
        exact pt_d (pt_iret gx58_77 ⟨_, rfl, by rw [h10]; exact H⟩)
    · have H := H.2 e7
      refine pt_d (pt_1 (fun n d => r_iload gx58_54 rfl) ?_)
      refine pt_d (pt_if_ge gx58_56 h6 (fun e11 => ?_) (fun e11 => ?_))
      · have H := H.1 e11
        refine pt_d (pt_iconst gx58_63 (fun v12 h12 => ?_))
        refine pt_d (pt_1 (fun n d => r_goto gx58_64) ?_)
        exact pt_d (pt_iret gx58_77 ⟨_, rfl, by rw [h12]; exact H⟩)
      · have H := H.2 e11
        refine pt_d (pt_iconst gx58_59 (fun v13 h13 => ?_))
        refine pt_d (pt_1 (fun n d => r_goto gx58_60) ?_)
        exact pt_d (pt_iret gx58_77 ⟨_, rfl, by rw [h13]; exact H⟩)
  · have H := H.2 e3
    refine pt_d (pt_1 (fun n d => r_iload gx58_23 rfl) ?_)
    refine pt_d (pt_1 (fun n d => r_iload gx58_25 rfl) ?_)
    refine pt_d (pt_icmp_ge gx58_27 h1 h2 (fun e14 => ?_) (fun e14 => ?_))
    · have H := H.1 e14
      refine pt_d (pt_iconst gx58_34 (fun v15 h15 => ?_))
      exact pt_d (pt_iret gx58_35 ⟨_, rfl, by rw [h15]; exact H⟩)
    · have H := H.2 e14
      refine pt_d (pt_iconst gx58_30 (fun v16 h16 => ?_))
      refine pt_d (pt_1 (fun n d => r_goto gx58_31) ?_)
      exact pt_d (pt_iret gx58_35 ⟨_, rfl, by rw [h16]; exact H⟩)
def isL (V : vS) (s b n : Int) : Prop := arN V s n.toNat < arN V b n.toNat ∨ (arN V s n.toNat = arN V b n.toNat ∧ (bcn (tb s) 32 < bcn (tb b) 32 ∨ (bcn (tb s) 32 = bcn (tb b) 32 ∧ s < b)))
theorem c_58 {n : Nat} {X : aX} {h : aH} {x1 x2 x3 : Int32} {a1 a2 a3 : Int} (S : wS h) (z1 : x1.toInt = a1) (z2 : x2.toInt = a2) (z3 : x3.toInt = a3) (hp : (0 ≤ a1 ∧ 0 ≤ a2) ∧ a3 ≤ 10) : Pt n X zM58 0 [some (.ref 48), some (.int x1), some (.int x2), some (.int x3), none, none, none] [] h (qI (fun r h' => h' = h ∧ r = bI (isL (vw h) a1 a2 a3))) := by
  have ic : ∀ a b : Int, (icm a b = 0 ↔ a = b) ∧ (icm a b < 0 ↔ a < b) := fun a b => by
    unfold icm
    by_cases x : a < b
    · rw [if_pos x]
      omega
    · by_cases y : a = b
      · rw [if_neg x, if_pos y]
        omega
      · rw [if_neg x, if_neg y]
        omega
  refine pt_d (d58_0 S z1 z2 z3 ⟨hp.2, hp.2, fun e => ⟨hp.1.1, hp.1.2, fun c => ⟨fun l => ⟨rfl, (bI_f ?_).symm⟩, fun l => ⟨rfl, (bI_t ?_).symm⟩⟩, fun c => ⟨fun l => ⟨rfl, (bI_f ?_).symm⟩, fun l => ⟨rfl, (bI_t ?_).symm⟩⟩⟩, fun e => ⟨fun l => ⟨rfl, (bI_f ?_).symm⟩, fun l => ⟨rfl, (bI_t (Or.inl l)).symm⟩⟩⟩)
  · rw [(ic _ _).1] at c
    unfold isL
    omega
  · rw [(ic _ _).1] at c
    unfold isL
    omega
  · have n1 : ¬ bcn (tb a1) 32 = bcn (tb a2) 32 := fun w => c ((ic (bcn (tb a1) 32) (bcn (tb a2) 32)).1.mpr w)
    have n2 : ¬ bcn (tb a1) 32 < bcn (tb a2) 32 := fun w => by
      have := (ic _ _).2.mpr w
      omega
    unfold isL
    omega
  · rw [(ic _ _).2] at l
    unfold isL
    omega
  · unfold isL
    omega


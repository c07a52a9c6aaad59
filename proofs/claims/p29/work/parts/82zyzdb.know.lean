-- ===== what is known of a farm =====
theorem d4_0 {n : Nat} {X : aX} {h : aH} {P : Int → aH → Prop} (S : wS h) (H : (∀ (w1 : Int32) (w2 : Int32), w1.toInt = 0 → w2.toInt = 0 → Pt n X zM4 4 [some (.ref 41), some (.int w1), some (.int w2)] [] h (qI P))) : Pt (n + 1) X zM4 0 [some (.ref 41), none, none] [] h (qI P) := by
  refine pt_iconst gx4_0 (fun v1 h1 => ?_)
  refine pt_d (pt_1 (fun n d => r_istoren (L' := [some (.ref 41), some (.int v1), none]) gx4_1 rfl rfl) ?_)
  refine pt_d (pt_iconst gx4_2 (fun v2 h2 => ?_))
  refine pt_d (pt_1 (fun n d => r_istoren (L' := [some (.ref 41), some (.int v1), some (.int v2)]) gx4_3 rfl rfl) ?_)
  exact H v1 v2 h1 h2
theorem d4_4 {n : Nat} {X : aX} {h : aH} {P : Int → aH → Prop} {x1 x2 : Int32} {a1 a2 : Int} (S : wS h) (z1 : x1.toInt = a1) (z2 : x2.toInt = a2) (H : ((8 ≤ a2 → P a1 h) ∧ (a2 < 8 → (0 ≤ a2 → a2 < 8 → ((vw h 44 a2 ≤ 0 → (∀ (w1 : Int32) (w2 : Int32), w1.toInt = w32 (a1 + 0) → w2.toInt = w32 (a2 + 1) → Pt n X zM4 4 [some (.ref 41), some (.int w1), some (.int w2)] [] h (qI P))) ∧ (0 < vw h 44 a2 → (∀ (w1 : Int32) (w2 : Int32), w1.toInt = w32 (a1 + 1) → w2.toInt = w32 (a2 + 1) → Pt n X zM4 4 [some (.ref 41), some (.int w1), some (.int w2)] [] h (qI P)))))))) : Pt (n + 1) X zM4 4 [some (.ref 41), some (.int x1), some (.int x2)] [] h (qI P) := by
  refine pt_1 (fun n d => r_iloadn gx4_4 rfl) ?_
  refine pt_d (pt_bipush gx4_5 (fun v1 h1 => ?_))
  refine pt_d (pt_icmp_ge gx4_7 z2 h1 (fun e2 => ?_) (fun e2 => ?_))
  · have H := H.1 e2
    refine pt_d (pt_1 (fun n d => r_iloadn gx4_33 rfl) ?_)
    exact pt_d (pt_iret gx4_34 ⟨_, rfl, by rw [z1]; exact H⟩)
  · have H := H.2 e2
    refine pt_d (pt_1 (fun n d => r_iloadn gx4_10 rfl) ?_)
    refine pt_d (pt_1 (fun n d => r_aloadn gx4_11 rfl) ?_)
    refine pt_d (pt_getR gx4_12 S tr_41_5 ?_)
    refine pt_d (pt_1 (fun n d => r_iloadn gx4_15 rfl) ?_)
    refine pt_d (pt_iald (N' := 8) gx4_16 S tl_44 z2 (fun v4 p4 q4 h4 => ?_))
    have H := H p4 q4
    refine pt_d (pt_if_le gx4_17 h4 (fun e5 => ?_) (fun e5 => ?_))
    · have H := H.1 e5
      refine pt_d (pt_iconst gx4_24 (fun v6 h6 => ?_))
      refine pt_d (pt_iadd gx4_25 z1 h6 (fun v7 h7 => ?_))
      refine pt_d (pt_1 (fun n d => r_istoren (L' := [some (.ref 41), some (.int v7), some (.int x2)]) gx4_26 rfl rfl) ?_)
      refine pt_d (pt_iinc (c := 1) gx4_27 rfl z2 (fun v8 h8 => ?_))
      show Pt _ _ _ _ [some (.ref 41), some (.int v7), some (.int v8)] [] _ _
      refine pt_d (pt_1 (fun n d => r_goto gx4_30) ?_)
      exact H v7 v8 h7 h8
    · have H := H.2 e5
      refine pt_d (pt_iconst gx4_20 (fun v9 h9 => ?_))
      refine pt_d (pt_1 (fun n d => r_goto gx4_21) ?_)
      refine pt_d (pt_iadd gx4_25 z1 h9 (fun v10 h10 => ?_))
      refine pt_d (pt_1 (fun n d => r_istoren (L' := [some (.ref 41), some (.int v10), some (.int x2)]) gx4_26 rfl rfl) ?_)
      refine pt_d (pt_iinc (c := 1) gx4_27 rfl z2 (fun v11 h11 => ?_))
      show Pt _ _ _ _ [some (.ref 41), some (.int v10), some (.int v11)] [] _ _
      refine pt_d (pt_1 (fun n d => r_goto gx4_30) ?_)
      exact H v10 v11 h10 h11
theorem d5_0 {n : Nat} {X : aX} {h : aH} {P : Int → aH → Prop} (S : wS h) (H : (∀ (w1 : Int32) (w2 : Int32), w1.toInt = 0 → w2.toInt = 0 → Pt n X zM5 4 [some (.ref 41), some (.int w1), some (.int w2)] [] h (qI P))) : Pt (n + 1) X zM5 0 [some (.ref 41), none, none] [] h (qI P) := by
  refine pt_iconst gx5_0 (fun v1 h1 => ?_)
  refine pt_d (pt_1 (fun n d => r_istoren (L' := [some (.ref 41), some (.int v1), none]) gx5_1 rfl rfl) ?_)
  refine pt_d (pt_iconst gx5_2 (fun v2 h2 => ?_))
  refine pt_d (pt_1 (fun n d => r_istoren (L' := [some (.ref 41), some (.int v1), some (.int v2)]) gx5_3 rfl rfl) ?_)
  exact H v1 v2 h1 h2
theorem d5_4 {n : Nat} {X : aX} {h : aH} {P : Int → aH → Prop} {x1 x2 : Int32} {a1 a2 : Int} (S : wS h) (z1 : x1.toInt = a1) (z2 : x2.toInt = a2) (H : ((8 ≤ a2 → P a1 h) ∧ (a2 < 8 → (0 ≤ a2 → a2 < 8 → (∀ (w1 : Int32) (w2 : Int32), w1.toInt = max a1 (vw h 44 a2) → w2.toInt = w32 (a2 + 1) → Pt n X zM5 4 [some (.ref 41), some (.int w1), some (.int w2)] [] h (qI P)))))) : Pt (n + 1) X zM5 4 [some (.ref 41), some (.int x1), some (.int x2)] [] h (qI P) := by
  refine pt_1 (fun n d => r_iloadn gx5_4 rfl) ?_
  refine pt_d (pt_bipush gx5_5 (fun v1 h1 => ?_))
  refine pt_d (pt_icmp_ge gx5_7 z2 h1 (fun e2 => ?_) (fun e2 => ?_))
  · have H := H.1 e2
    refine pt_d (pt_1 (fun n d => r_iloadn gx5_27 rfl) ?_)
    exact pt_d (pt_iret gx5_28 ⟨_, rfl, by rw [z1]; exact H⟩)
  · have H := H.2 e2
    refine pt_d (pt_1 (fun n d => r_iloadn gx5_10 rfl) ?_)
    refine pt_d (pt_1 (fun n d => r_aloadn gx5_11 rfl) ?_)
    refine pt_d (pt_getR gx5_12 S tr_41_5 ?_)
    refine pt_d (pt_1 (fun n d => r_iloadn gx5_15 rfl) ?_)
    refine pt_d (pt_iald (N' := 8) gx5_16 S tl_44 z2 (fun v4 p4 q4 h4 => ?_))
    have H := H p4 q4
    refine pt_d (pt_max gx5_17 rfl z1 h4 (fun v5 h5 => ?_))
    refine pt_d (pt_1 (fun n d => r_istoren (L' := [some (.ref 41), some (.int v5), some (.int x2)]) gx5_20 rfl rfl) ?_)
    refine pt_d (pt_iinc (c := 1) gx5_21 rfl z2 (fun v6 h6 => ?_))
    show Pt _ _ _ _ [some (.ref 41), some (.int v5), some (.int v6)] [] _ _
    refine pt_d (pt_1 (fun n d => r_goto gx5_24) ?_)
    exact H v5 v6 h5 h6
def mxN (f : Int → Int) : Nat → Int
  | 0 => 0
  | k + 1 => max (mxN f k) (f (k : Nat))
theorem mxN_c {f g : Int → Int} : ∀ k : Nat, (∀ j : Int, 0 ≤ j → j < (k : Int) → f j = g j) → mxN f k = mxN g k
  | 0, _ => rfl
  | k + 1, h => by
    have e : ∀ f : Int → Int, mxN f (k + 1) = max (mxN f k) (f (k : Nat)) := fun _ => rfl
    rw [e, e, mxN_c k (fun j a b => h j a (by omega)), h (k : Nat) (by omega) (by omega)]
theorem l_4 {X : aX} {h : aH} (S : wS h) : ∀ (n : Nat) (x1 x2 : Int32) (k : Nat), x1.toInt = nQ (fun j => 0 < vw h 44 j) k → x2.toInt = (k : Int) → k ≤ 8 → Pt n X zM4 4 [some (.ref 41), some (.int x1), some (.int x2)] [] h (qI (fun r h' => h' = h ∧ r = nQ (fun j => 0 < vw h 44 j) 8)) := by
  intro n
  induction n with
  | zero => intros; exact pt_z
  | succ n ih =>
    intro x1 x2 k h1 h2 hk
    have b := nQ_b (fun j => 0 < vw h 44 j) k
    refine d4_4 S h1 h2 ⟨fun e => ⟨rfl, ?_⟩, fun e _ _ => ⟨fun z w1 w2 g1 g2 => ?_, fun z w1 w2 g1 g2 => ?_⟩⟩
    · rw [show k = 8 by omega]
    · replace g1 := w_1 g1 (by omega) (by omega)
      replace g2 := w_1 g2 (by omega) (by omega)
      refine ih w1 w2 (k + 1) ?_ (by omega) (by omega)
      rw [nQ_f (P := fun j => 0 < vw h 44 j) (show ¬ 0 < vw h 44 (k : Nat) by omega)]
      exact g1
    · replace g1 := w_1 g1 (by omega) (by omega)
      replace g2 := w_1 g2 (by omega) (by omega)
      refine ih w1 w2 (k + 1) ?_ (by omega) (by omega)
      rw [nQ_t (P := fun j => 0 < vw h 44 j) z]
      exact g1
theorem c_4 {n : Nat} {X : aX} {h : aH} (S : wS h) : Pt n X zM4 0 [some (.ref 41), none, none] [] h (qI (fun r h' => h' = h ∧ r = nQ (fun j => 0 < vw h 44 j) 8)) :=
  pt_d (d4_0 S (fun w1 w2 g1 g2 => l_4 S n w1 w2 0 g1 g2 (Nat.zero_le _)))
theorem l_5 {X : aX} {h : aH} (S : wS h) : ∀ (n : Nat) (x1 x2 : Int32) (k : Nat), x1.toInt = mxN (fun j => vw h 44 j) k → x2.toInt = (k : Int) → k ≤ 8 → Pt n X zM5 4 [some (.ref 41), some (.int x1), some (.int x2)] [] h (qI (fun r h' => h' = h ∧ r = mxN (fun j => vw h 44 j) 8)) := by
  intro n
  induction n with
  | zero => intros; exact pt_z
  | succ n ih =>
    intro x1 x2 k h1 h2 hk
    refine d5_4 S h1 h2 ⟨fun e => ⟨rfl, ?_⟩, fun e _ _ w1 w2 g1 g2 => ?_⟩
    · rw [show k = 8 by omega]
    · replace g2 := w_1 g2 (by omega) (by omega)
      exact ih w1 w2 (k + 1) g1 (by omega) (by omega)
theorem c_5 {n : Nat} {X : aX} {h : aH} (S : wS h) : Pt n X zM5 0 [some (.ref 41), none, none] [] h (qI (fun r h' => h' = h ∧ r = mxN (fun j => vw h 44 j) 8)) :=
  pt_d (d5_0 S (fun w1 w2 g1 g2 => l_5 S n w1 w2 0 g1 g2 (Nat.zero_le _)))

theorem d7_0 {n : Nat} {X : aX} {h : aH} {P : Int → aH → Prop} {x1 x2 x3 x4 : Int32} {a1 a2 a3 a4 : Int} (S : wS h) (z1 : x1.toInt = a1) (z2 : x2.toInt = a2) (z3 : x3.toInt = a3) (z4 : x4.toInt = a4) (H : (vw h 1 6 ≤ 200 ∧ ((cHold (vw h) a2 (w32 ((w32 ((w32 (a3 * 365)) + 365)) - 1)) a4 ≠ a1 → P 0 h) ∧ (cHold (vw h) a2 (w32 ((w32 ((w32 (a3 * 365)) + 365)) - 1)) a4 = a1 → P 1 h)))) : Pt (n + 1) X zM7 0 [some (.ref 41), some (.int x1), some (.int x2), some (.int x3), some (.int x4)] [] h (qI P) := by
  refine pt_1 (fun n d => r_aloadn gx7_0 rfl) ?_
  refine pt_d (pt_getR gx7_1 S tr_41_0 ?_)
  refine pt_d (pt_1 (fun n d => r_iloadn gx7_4 rfl) ?_)
  refine pt_d (pt_1 (fun n d => r_iloadn gx7_5 rfl) ?_)
  refine pt_d (pt_sipush gx7_6 (fun v2 h2 => ?_))
  refine pt_d (pt_imul gx7_9 z3 h2 (fun v3 h3 => ?_))
  refine pt_d (pt_sipush gx7_10 (fun v4 h4 => ?_))
  refine pt_d (pt_iadd gx7_13 h3 h4 (fun v5 h5 => ?_))
  refine pt_d (pt_iconst gx7_14 (fun v6 h6 => ?_))
  refine pt_d (pt_isub gx7_15 h5 h6 (fun v7 h7 => ?_))
  refine pt_d (pt_1 (fun n d => r_iload gx7_16 rfl) ?_)
  obtain ⟨pr8, H⟩ := H
  refine pt_d (pt_virt (as := [.int x2, .int v7, .int x4]) (r := []) gx7_18 rfl (show zmt[86]? = some zM86 from rfl) rfl rfl rfl rfl (c_86 S z2 h7 z4 pr8) (kqP (fun v8 h8 => ?_)))
  show Pt _ _ _ 21 _ [.int v8] _ _
  refine pt_d (pt_1 (fun n d => r_iloadn gx7_21 rfl) ?_)
  refine pt_d (pt_icmp_ne gx7_22 h8 z1 (fun e9 => ?_) (fun e9 => ?_))
  · have H := H.1 e9
    refine pt_d (pt_iconst gx7_29 (fun v10 h10 => ?_))
    exact pt_d (pt_iret gx7_30 ⟨_, rfl, by rw [h10]; exact H⟩)
  · have H := H.2 e9
    refine pt_d (pt_iconst gx7_25 (fun v11 h11 => ?_))
    refine pt_d (pt_1 (fun n d => r_goto gx7_26) ?_)
    exact pt_d (pt_iret gx7_30 ⟨_, rfl, by rw [h11]; exact H⟩)
def ldY (y : Int) : Int := w32 (w32 (w32 (y * 365) + 365) - 1)
theorem c_7 {n : Nat} {X : aX} {h : aH} {x1 x2 x3 x4 : Int32} {a1 a2 a3 a4 : Int} (S : wS h) (z1 : x1.toInt = a1) (z2 : x2.toInt = a2) (z3 : x3.toInt = a3) (z4 : x4.toInt = a4) (hp : vw h 1 6 ≤ 200) : Pt n X zM7 0 [some (.ref 41), some (.int x1), some (.int x2), some (.int x3), some (.int x4)] [] h (qI (fun r h' => h' = h ∧ r = bI (cHold (vw h) a2 (ldY a3) a4 = a1))) :=
  pt_d (d7_0 S z1 z2 z3 z4 ⟨hp, fun e => ⟨rfl, (bI_f e).symm⟩, fun e => ⟨rfl, (bI_t e).symm⟩⟩)

theorem d6_0 {n : Nat} {X : aX} {h : aH} {P : Int → aH → Prop} {x1 x2 x3 : Int32} {a1 a2 a3 : Int} (S : wS h) (z1 : x1.toInt = a1) (z2 : x2.toInt = a2) (z3 : x3.toInt = a3) (H : (∀ (w4 : Int32) (w5 : Int32), w4.toInt = 0 → w5.toInt = 0 → Pt n X zM6 6 [some (.ref 41), some (.int x1), some (.int x2), some (.int x3), some (.int w4), some (.int w5)] [] h (qI P))) : Pt (n + 1) X zM6 0 [some (.ref 41), some (.int x1), some (.int x2), some (.int x3), none, none] [] h (qI P) := by
  refine pt_iconst gx6_0 (fun v1 h1 => ?_)
  refine pt_d (pt_1 (fun n d => r_istore (L' := [some (.ref 41), some (.int x1), some (.int x2), some (.int x3), some (.int v1), none]) gx6_1 rfl rfl) ?_)
  refine pt_d (pt_iconst gx6_3 (fun v2 h2 => ?_))
  refine pt_d (pt_1 (fun n d => r_istore (L' := [some (.ref 41), some (.int x1), some (.int x2), some (.int x3), some (.int v1), some (.int v2)]) gx6_4 rfl rfl) ?_)
  exact H v1 v2 h1 h2
theorem d6_6 {n : Nat} {X : aX} {h : aH} {P : Int → aH → Prop} {x1 x2 x3 x4 x5 : Int32} {a1 a2 a3 a4 a5 : Int} (S : wS h) (z1 : x1.toInt = a1) (z2 : x2.toInt = a2) (z3 : x3.toInt = a3) (z4 : x4.toInt = a4) (z5 : x5.toInt = a5) (H : ((vw h 1 4 ≤ a5 → P a4 h) ∧ (a5 < vw h 1 4 → (0 ≤ a5 → a5 < 150 → ((vw h 1 6 ≤ 200) ∧ ((¬ (cHold (vw h) (vw h 6 a5) (ldY a2) a3 = a1) → (∀ (w4 : Int32) (w5 : Int32), w4.toInt = w32 (a4 + 0) → w5.toInt = w32 (a5 + 1) → Pt n X zM6 6 [some (.ref 41), some (.int x1), some (.int x2), some (.int x3), some (.int w4), some (.int w5)] [] h (qI P))) ∧ ((cHold (vw h) (vw h 6 a5) (ldY a2) a3 = a1) → (∀ (w4 : Int32) (w5 : Int32), w4.toInt = w32 (a4 + 1) → w5.toInt = w32 (a5 + 1) → Pt n X zM6 6 [some (.ref 41), some (.int x1), some (.int x2), some (.int x3), some (.int w4), some (.int w5)] [] h (qI P))))))))) : Pt (n + 1) X zM6 6 [some (.ref 41), some (.int x1), some (.int x2), some (.int x3), some (.int x4), some (.int x5)] [] h (qI P) := by
  refine pt_1 (fun n d => r_iload gx6_6 rfl) ?_
  refine pt_d (pt_1 (fun n d => r_aloadn gx6_8 rfl) ?_)
  refine pt_d (pt_getR gx6_9 S tr_41_0 ?_)
  refine pt_d (pt_getI (B := 4) gx6_12 S (fun v2 h2 => ?_))
  refine pt_d (pt_icmp_ge gx6_15 z5 h2 (fun e3 => ?_) (fun e3 => ?_))
  · have H := H.1 e3
    refine pt_d (pt_1 (fun n d => r_iload gx6_54 rfl) ?_)
    exact pt_d (pt_iret gx6_56 ⟨_, rfl, by rw [z4]; exact H⟩)
  · have H := H.2 e3
    refine pt_d (pt_1 (fun n d => r_iload gx6_18 rfl) ?_)
    refine pt_d (pt_1 (fun n d => r_aloadn gx6_20 rfl) ?_)
    refine pt_d (pt_1 (fun n d => r_iloadn gx6_21 rfl) ?_)
    refine pt_d (pt_1 (fun n d => r_aloadn gx6_22 rfl) ?_)
    refine pt_d (pt_getR gx6_23 S tr_41_0 ?_)
    refine pt_d (pt_getR gx6_26 S tr_1_11 ?_)
    refine pt_d (pt_1 (fun n d => r_iload gx6_29 rfl) ?_)
    refine pt_d (pt_iald (N' := 150) gx6_31 S tl_6 z5 (fun v6 p6 q6 h6 => ?_))
    have H := H p6 q6
    refine pt_d (pt_1 (fun n d => r_iloadn gx6_32 rfl) ?_)
    refine pt_d (pt_1 (fun n d => r_iloadn gx6_33 rfl) ?_)
    obtain ⟨pr7, H⟩ := H
    refine pt_d (pt_virt (as := [.int x1, .int v6, .int x2, .int x3]) (r := [.int x4]) gx6_34 rfl (show zmt[7]? = some zM7 from rfl) rfl rfl rfl rfl (c_7 S z1 h6 z2 z3 pr7) (kqP (fun v7 h7 => ?_)))
    show Pt _ _ _ 37 _ [.int v7, .int x4] _ _
    refine pt_d (pt_ifB_eq gx6_37 h7 (fun e8 => ?_) (fun e8 => ?_))
    · have H := H.1 e8
      refine pt_d (pt_iconst gx6_44 (fun v9 h9 => ?_))
      refine pt_d (pt_iadd gx6_45 z4 h9 (fun v10 h10 => ?_))
      refine pt_d (pt_1 (fun n d => r_istore (L' := [some (.ref 41), some (.int x1), some (.int x2), some (.int x3), some (.int v10), some (.int x5)]) gx6_46 rfl rfl) ?_)
      refine pt_d (pt_iinc (c := 1) gx6_48 rfl z5 (fun v11 h11 => ?_))
      show Pt _ _ _ _ [some (.ref 41), some (.int x1), some (.int x2), some (.int x3), some (.int v10), some (.int v11)] [] _ _
      refine pt_d (pt_1 (fun n d => r_goto gx6_51) ?_)
      exact H v10 v11 h10 h11
    · have H := H.2 e8
      refine pt_d (pt_iconst gx6_40 (fun v12 h12 => ?_))
      refine pt_d (pt_1 (fun n d => r_goto gx6_41) ?_)
      refine pt_d (pt_iadd gx6_45 z4 h12 (fun v13 h13 => ?_))
      refine pt_d (pt_1 (fun n d => r_istore (L' := [some (.ref 41), some (.int x1), some (.int x2), some (.int x3), some (.int v13), some (.int x5)]) gx6_46 rfl rfl) ?_)
      refine pt_d (pt_iinc (c := 1) gx6_48 rfl z5 (fun v14 h14 => ?_))
      show Pt _ _ _ _ [some (.ref 41), some (.int x1), some (.int x2), some (.int x3), some (.int v13), some (.int v14)] [] _ _
      refine pt_d (pt_1 (fun n d => r_goto gx6_51) ?_)
      exact H v13 v14 h13 h14
theorem l_6 {X : aX} {h : aH} {f y t : Int} (S : wS h) (hp : vw h 1 6 ≤ 200) (hn : vw h 1 4 ≤ 150) : ∀ (n : Nat) (x1 x2 x3 x4 x5 : Int32) (k : Nat), x1.toInt = f → x2.toInt = y → x3.toInt = t → x4.toInt = nQ (fun i => cHold (vw h) (vw h 6 i) (ldY y) t = f) k → x5.toInt = (k : Int) → (k = 0 ∨ (k : Int) ≤ vw h 1 4) → Pt n X zM6 6 [some (.ref 41), some (.int x1), some (.int x2), some (.int x3), some (.int x4), some (.int x5)] [] h (qI (fun r h' => h' = h ∧ r = nQ (fun i => cHold (vw h) (vw h 6 i) (ldY y) t = f) (vw h 1 4).toNat)) := by
  intro n
  induction n with
  | zero => intros; exact pt_z
  | succ n ih =>
    intro x1 x2 x3 x4 x5 k h1 h2 h3 h4 h5 hk
    have b := nQ_b (fun i => cHold (vw h) (vw h 6 i) (ldY y) t = f) k
    refine d6_6 S h1 h2 h3 h4 h5 ⟨fun e => ⟨rfl, ?_⟩, fun e _ _ => ⟨hp, fun z w4 w5 g4 g5 => ?_, fun z w4 w5 g4 g5 => ?_⟩⟩
    · rw [show (vw h 1 4).toNat = k by omega]
    · replace g4 := w_1 g4 (by omega) (by omega)
      replace g5 := w_1 g5 (by omega) (by omega)
      refine ih x1 x2 x3 w4 w5 (k + 1) h1 h2 h3 ?_ (by omega) (Or.inr (by omega))
      rw [nQ_f (P := fun i => cHold (vw h) (vw h 6 i) (ldY y) t = f) z]
      exact g4
    · replace g4 := w_1 g4 (by omega) (by omega)
      replace g5 := w_1 g5 (by omega) (by omega)
      refine ih x1 x2 x3 w4 w5 (k + 1) h1 h2 h3 ?_ (by omega) (Or.inr (by omega))
      rw [nQ_t (P := fun i => cHold (vw h) (vw h 6 i) (ldY y) t = f) z]
      exact g4
theorem c_6 {n : Nat} {X : aX} {h : aH} {x1 x2 x3 : Int32} {a1 a2 a3 : Int} (S : wS h) (z1 : x1.toInt = a1) (z2 : x2.toInt = a2) (z3 : x3.toInt = a3) (hp : vw h 1 6 ≤ 200 ∧ vw h 1 4 ≤ 150) : Pt n X zM6 0 [some (.ref 41), some (.int x1), some (.int x2), some (.int x3), none, none] [] h (qI (fun r h' => h' = h ∧ r = nQ (fun i => cHold (vw h) (vw h 6 i) (ldY a2) a3 = a1) (vw h 1 4).toNat)) :=
  pt_d (d6_0 S z1 z2 z3 (fun w4 w5 g4 g5 => l_6 S hp.1 hp.2 n x1 x2 x3 w4 w5 0 z1 z2 z3 g4 g5 (Or.inl rfl)))


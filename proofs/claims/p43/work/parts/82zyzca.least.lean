-- ===== 82zyzca.least: 4 texts =====
section
theorem d99_0 {n : Nat} {X : aX} {h : aH} {P : Int → aH → Prop} {x1 : Int32} {a1 : Int} {q0 : Nat} (S : wS h) (z1 : x1.toInt = a1) (H : (∀ (w2 : Int32), w2.toInt = 0 → Pt n X zM99 2 [some (.ref q0), some (.int x1), some (.int w2)] [] h (qI P))) : Pt (n + 1) X zM99 0 [some (.ref q0), some (.int x1), none] [] h (qI P) := by
  refine pt_iconst gx99_0 (fun v1 h1 => ?_)
  refine pt_d (pt_1 (fun n d => r_istoren (L' := [some (.ref q0), some (.int x1), some (.int v1)]) gx99_1 rfl rfl) ?_)
  exact H v1 h1
theorem d99_2 {n : Nat} {X : aX} {h : aH} {P : Int → aH → Prop} {x1 x2 : Int32} {a1 a2 : Int} {q0 : Nat} (S : wS h) (z1 : x1.toInt = a1) (z2 : x2.toInt = a2) (H : ((vw h q0 5 ≤ a2 → P 0 h) ∧ (a2 < vw h q0 5 → ((vw h q0 1 = ((16 : Nat) : Int) ∧ vw h q0 6 = ((q0 + 1 : Nat) : Int)) ∧ (((vw h) 18 ((vw h) (q0 + 1) a2) ≠ a1 → (∀ (w2 : Int32), w2.toInt = w32 (a2 + 1) → Pt n X zM99 2 [some (.ref q0), some (.int x1), some (.int w2)] [] h (qI P))) ∧ ((vw h) 18 ((vw h) (q0 + 1) a2) = a1 → P 1 h)))))) : Pt (n + 1) X zM99 2 [some (.ref q0), some (.int x1), some (.int x2)] [] h (qI P) := by
  refine pt_1 (fun n d => r_iloadn gx99_2 rfl) ?_
  refine pt_d (pt_1 (fun n d => r_aloadn gx99_3 rfl) ?_)
  refine pt_d (pt_getI (B := 5) gx99_4 S (fun v1 h1 => ?_))
  refine pt_d (pt_icmp_ge gx99_7 z2 h1 (fun e2 => ?_) (fun e2 => ?_))
  · have H := H.1 e2
    refine pt_d (pt_iconst gx99_27 (fun v3 h3 => ?_))
    exact pt_d (pt_iret gx99_28 ⟨_, rfl, by rw [h3]; exact H⟩)
  · have H := H.2 e2
    refine pt_d (pt_1 (fun n d => r_aloadn gx99_10 rfl) ?_)
    refine pt_d (pt_1 (fun n d => r_iloadn gx99_11 rfl) ?_)
    obtain ⟨pr4, H⟩ := H
    refine pt_d (pt_virt (as := [.int x2]) (r := []) gx99_12 rfl (show zmt[101]? = some zM101 from rfl) rfl rfl rfl rfl (c_101 S z2 pr4) (kqP (fun v4 h4 => ?_)))
    show Pt _ _ _ 15 _ [.int v4] _ _
    refine pt_d (pt_1 (fun n d => r_iloadn gx99_15 rfl) ?_)
    refine pt_d (pt_icmp_ne gx99_16 h4 z1 (fun e5 => ?_) (fun e5 => ?_))
    · have H := H.1 e5
      refine pt_d (pt_iinc (c := 1) gx99_21 rfl z2 (fun v6 h6 => ?_))
      show Pt _ _ _ _ [some (.ref q0), some (.int x1), some (.int v6)] [] _ _
      refine pt_d (pt_1 (fun n d => r_goto gx99_24) ?_)
      exact H v6 h6
    · have H := H.2 e5
      refine pt_d (pt_iconst gx99_19 (fun v7 h7 => ?_))
      exact pt_d (pt_iret gx99_20 ⟨_, rfl, by rw [h7]; exact H⟩)
def clm (V : vS) (q : Nat) (b : Int) : Prop := ∃ i, (0 ≤ i ∧ i < V q 5) ∧ V 18 (V (q + 1) i) = b
theorem l_99 {X : aX} {h : aH} {b : Int} {q : Nat} (S : wS h) (L : vw h q 1 = ((16 : Nat) : Int) ∧ vw h q 6 = ((q + 1 : Nat) : Int)) (hN : vw h q 5 ≤ 300) : ∀ (n : Nat) (x1 x2 : Int32) (k : Int), x1.toInt = b → x2.toInt = k → 0 ≤ k → (∀ i, 0 ≤ i → i < k → ¬ vw h 18 (vw h (q + 1) i) = b) → Pt n X zM99 2 [some (.ref q), some (.int x1), some (.int x2)] [] h (qI (fun r h' => h' = h ∧ r = bI (clm (vw h) q b))) := by
  intro n
  induction n with
  | zero => intros; exact pt_z
  | succ n ih =>
    intro x1 x2 k h1 h2 k0 no
    refine d99_2 S h1 h2 ⟨fun e => ⟨rfl, (bI_f (fun ⟨i, m, z⟩ => no i m.1 (by omega) z)).symm⟩, fun e => ⟨L, fun z w g => ?_, fun z => ⟨rfl, (bI_t ⟨k, ⟨k0, e⟩, z⟩).symm⟩⟩⟩
    replace g := w_1 g (by omega) (by omega)
    refine ih x1 w (k + 1) h1 g (by omega) (fun i a c => ?_)
    by_cases y : i = k
    · rw [y]
      exact z
    · exact no i a (by omega)
theorem c_99 {n : Nat} {X : aX} {h : aH} {x1 : Int32} {a1 : Int} {q0 : Nat} (S : wS h) (z1 : x1.toInt = a1) (hp : (vw h q0 1 = ((16 : Nat) : Int) ∧ vw h q0 6 = ((q0 + 1 : Nat) : Int)) ∧ vw h q0 5 ≤ 300) : Pt n X zM99 0 [some (.ref q0), some (.int x1), none] [] h (qI (fun r h' => h' = h ∧ r = bI (clm (vw h) q0 a1))) :=
  pt_d (d99_0 S z1 (fun w g => l_99 S hp.1 hp.2 n x1 w 0 z1 g (Int.le_refl _) (fun i a c => by omega)))

theorem d84_0 {n : Nat} {X : aX} {h : aH} {P : Int → aH → Prop} {x1 x2 : Int32} {a1 a2 : Int} (S : wS h) (z1 : x1.toInt = a1) (z2 : x2.toInt = a2) (H : (∀ (w3 : Int32), w3.toInt = 0 → Pt n X zM84 2 [some (.ref 1), some (.int x1), some (.int x2), some (.int w3)] [] h (qI P))) : Pt (n + 1) X zM84 0 [some (.ref 1), some (.int x1), some (.int x2), none] [] h (qI P) := by
  refine pt_iconst gx84_0 (fun v1 h1 => ?_)
  refine pt_d (pt_1 (fun n d => r_istoren (L' := [some (.ref 1), some (.int x1), some (.int x2), some (.int v1)]) gx84_1 rfl rfl) ?_)
  exact H v1 h1
theorem d84_2 {n : Nat} {X : aX} {h : aH} {P : Int → aH → Prop} {x1 x2 x3 : Int32} {a1 a2 a3 : Int} (S : wS h) (z1 : x1.toInt = a1) (z2 : x2.toInt = a2) (z3 : x3.toInt = a3) (H : ((24 ≤ a3 → P 0 h) ∧ (a3 < 24 → (((0 ≤ a1 ∧ a1 < 150) ∧ 0 ≤ a3 ∧ a3 < 24) ∧ (((0 ≤ a2 ∧ a2 < 150) ∧ 0 ≤ a3 ∧ a3 < 24) ∧ ((bAnd ((vw h) 8 (24 * a1 + a3)) ((vw h) 8 (24 * a2 + a3)) = 0 → (∀ (w3 : Int32), w3.toInt = w32 (a3 + 1) → Pt n X zM84 2 [some (.ref 1), some (.int x1), some (.int x2), some (.int w3)] [] h (qI P))) ∧ (bAnd ((vw h) 8 (24 * a1 + a3)) ((vw h) 8 (24 * a2 + a3)) ≠ 0 → P 1 h))))))) : Pt (n + 1) X zM84 2 [some (.ref 1), some (.int x1), some (.int x2), some (.int x3)] [] h (qI P) := by
  refine pt_1 (fun n d => r_iloadn gx84_2 rfl) ?_
  refine pt_d (pt_bipush gx84_3 (fun v1 h1 => ?_))
  refine pt_d (pt_icmp_ge gx84_5 z3 h1 (fun e2 => ?_) (fun e2 => ?_))
  · have H := H.1 e2
    refine pt_d (pt_iconst gx84_32 (fun v3 h3 => ?_))
    exact pt_d (pt_iret gx84_33 ⟨_, rfl, by rw [h3]; exact H⟩)
  · have H := H.2 e2
    refine pt_d (pt_1 (fun n d => r_aloadn gx84_8 rfl) ?_)
    refine pt_d (pt_1 (fun n d => r_iloadn gx84_9 rfl) ?_)
    refine pt_d (pt_1 (fun n d => r_iloadn gx84_10 rfl) ?_)
    obtain ⟨pr4, H⟩ := H
    refine pt_d (pt_virt (as := [.int x1, .int x3]) (r := []) gx84_11 rfl (show zmt[82]? = some zM82 from rfl) rfl rfl rfl rfl (k_82 S z1 z3 pr4) (kqP (fun v4 h4 => ?_)))
    show Pt _ _ _ 14 _ [.int v4] _ _
    refine pt_d (pt_1 (fun n d => r_aloadn gx84_14 rfl) ?_)
    refine pt_d (pt_1 (fun n d => r_iloadn gx84_15 rfl) ?_)
    refine pt_d (pt_1 (fun n d => r_iloadn gx84_16 rfl) ?_)
    obtain ⟨pr5, H⟩ := H
    refine pt_d (pt_virt (as := [.int x2, .int x3]) (r := [.int v4]) gx84_17 rfl (show zmt[82]? = some zM82 from rfl) rfl rfl rfl rfl (k_82 S z2 z3 pr5) (kqP (fun v5 h5 => ?_)))
    show Pt _ _ _ 20 _ [.int v5, .int v4] _ _
    refine pt_d (pt_iand gx84_20 h4 h5 (fun v6 h6 => ?_))
    refine pt_d (pt_if_eq gx84_21 h6 (fun e7 => ?_) (fun e7 => ?_))
    · have H := H.1 e7
      refine pt_d (pt_iinc (c := 1) gx84_26 rfl z3 (fun v8 h8 => ?_))
      show Pt _ _ _ _ [some (.ref 1), some (.int x1), some (.int x2), some (.int v8)] [] _ _
      refine pt_d (pt_1 (fun n d => r_goto gx84_29) ?_)
      exact H v8 h8
    · have H := H.2 e7
      refine pt_d (pt_iconst gx84_24 (fun v9 h9 => ?_))
      exact pt_d (pt_iret gx84_25 ⟨_, rfl, by rw [h9]; exact H⟩)
def cMt (V : vS) (a b : Int) : Prop := ∃ y, (0 ≤ y ∧ y < 24) ∧ bAnd (V 8 (24 * a + y)) (V 8 (24 * b + y)) ≠ 0
theorem l_84 {X : aX} {h : aH} {a b : Int} (S : wS h) (ha : 0 ≤ a ∧ a < 150) (hb : 0 ≤ b ∧ b < 150) : ∀ (n : Nat) (x1 x2 x3 : Int32) (k : Int), x1.toInt = a → x2.toInt = b → x3.toInt = k → 0 ≤ k → k ≤ 24 → (∀ y, 0 ≤ y → y < k → ¬ bAnd (vw h 8 (24 * a + y)) (vw h 8 (24 * b + y)) ≠ 0) → Pt n X zM84 2 [some (.ref 1), some (.int x1), some (.int x2), some (.int x3)] [] h (qI (fun r h' => h' = h ∧ r = bI (cMt (vw h) a b))) := by
  intro n
  induction n with
  | zero => intros; exact pt_z
  | succ n ih =>
    intro x1 x2 x3 k h1 h2 h3 k0 k1 no
    have next : bAnd (vw h 8 (24 * a + k)) (vw h 8 (24 * b + k)) = 0 → k < 24 → ∀ w : Int32, w.toInt = w32 (k + 1) → Pt n X zM84 2 [some (.ref 1), some (.int x1), some (.int x2), some (.int w)] [] h (qI (fun r h' => h' = h ∧ r = bI (cMt (vw h) a b))) := by
      intro z e w g
      replace g := w_1 g (by omega) (by omega)
      refine ih x1 x2 w (k + 1) h1 h2 g (by omega) (by omega) (fun y y0 yk => ?_)
      by_cases q : y = k
      · rw [q]
        exact fun w => w z
      · exact no y y0 (by omega)
    refine d84_2 S h1 h2 h3 ⟨fun e => ⟨rfl, (bI_f (fun ⟨y, m, z⟩ => no y m.1 (by omega) z)).symm⟩, fun e => ⟨⟨ha, k0, e⟩, ⟨hb, k0, e⟩, fun z w g => next z e w g, fun z => ⟨rfl, (bI_t ⟨k, ⟨k0, e⟩, z⟩).symm⟩⟩⟩
theorem c_84 {n : Nat} {X : aX} {h : aH} {x1 x2 : Int32} {a1 a2 : Int} (S : wS h) (z1 : x1.toInt = a1) (z2 : x2.toInt = a2) (hp : (0 ≤ a1 ∧ a1 < 150) ∧ 0 ≤ a2 ∧ a2 < 150) : Pt n X zM84 0 [some (.ref 1), some (.int x1), some (.int x2), none] [] h (qI (fun r h' => h' = h ∧ r = bI (cMt (vw h) a1 a2))) :=
  pt_d (d84_0 S z1 z2 (fun w g => l_84 S hp.1 hp.2 n x1 x2 w 0 z1 z2 g (Int.le_refl _) (by decide) (fun y a c => by omega)))

theorem d282_0 {n : Nat} {X : aX} {h : aH} {P : Int → aH → Prop} {x1 x2 : Int32} {a1 a2 : Int} (S : wS h) (z1 : x1.toInt = a1) (z2 : x2.toInt = a2) (H : (∀ (w3 : Int32), w3.toInt = 0 → Pt n X zM282 2 [some (.ref 72), some (.int x1), some (.int x2), some (.int w3)] [] h (qI P))) : Pt (n + 1) X zM282 0 [some (.ref 72), some (.int x1), some (.int x2), none] [] h (qI P) := by
  refine pt_iconst gx282_0 (fun v1 h1 => ?_)
  refine pt_d (pt_1 (fun n d => r_istoren (L' := [some (.ref 72), some (.int x1), some (.int x2), some (.int v1)]) gx282_1 rfl rfl) ?_)
  exact H v1 h1
theorem d282_2 {n : Nat} {X : aX} {h : aH} {P : Int → aH → Prop} {x1 x2 x3 : Int32} {a1 a2 a3 : Int} (S : wS h) (z1 : x1.toInt = a1) (z2 : x2.toInt = a2) (z3 : x3.toInt = a3) (H : ((24 ≤ a3 → P 0 h) ∧ (a3 < 24 → (0 ≤ w32 ((w32 (24 * a1)) + a3) → w32 ((w32 (24 * a1)) + a3) < 3600 → (0 ≤ w32 ((w32 (24 * a2)) + a3) → w32 ((w32 (24 * a2)) + a3) < 3600 → ((bAnd (vw h 80 (w32 ((w32 (24 * a1)) + a3))) (vw h 80 (w32 ((w32 (24 * a2)) + a3))) = 0 → (∀ (w3 : Int32), w3.toInt = w32 (a3 + 1) → Pt n X zM282 2 [some (.ref 72), some (.int x1), some (.int x2), some (.int w3)] [] h (qI P))) ∧ (bAnd (vw h 80 (w32 ((w32 (24 * a1)) + a3))) (vw h 80 (w32 ((w32 (24 * a2)) + a3))) ≠ 0 → P 1 h))))))) : Pt (n + 1) X zM282 2 [some (.ref 72), some (.int x1), some (.int x2), some (.int x3)] [] h (qI P) := by
  refine pt_1 (fun n d => r_iloadn gx282_2 rfl) ?_
  refine pt_d (pt_bipush gx282_3 (fun v1 h1 => ?_))
  refine pt_d (pt_icmp_ge gx282_5 z3 h1 (fun e2 => ?_) (fun e2 => ?_))
  · have H := H.1 e2
    refine pt_d (pt_iconst gx282_42 (fun v3 h3 => ?_))
    exact pt_d (pt_iret gx282_43 ⟨_, rfl, by rw [h3]; exact H⟩)
  · have H := H.2 e2
    refine pt_d (pt_1 (fun n d => r_aloadn gx282_8 rfl) ?_)
    refine pt_d (pt_getR gx282_9 S tr_72_10 ?_)
    refine pt_d (pt_bipush gx282_12 (fun v5 h5 => ?_))
    refine pt_d (pt_1 (fun n d => r_iloadn gx282_14 rfl) ?_)
    refine pt_d (pt_imul gx282_15 h5 z1 (fun v6 h6 => ?_))
    refine pt_d (pt_1 (fun n d => r_iloadn gx282_16 rfl) ?_)
    refine pt_d (pt_iadd gx282_17 h6 z3 (fun v7 h7 => ?_))
    refine pt_d (pt_iald (N' := 3600) gx282_18 S tl_80 h7 (fun v8 p8 q8 h8 => ?_))
    have H := H p8 q8
    refine pt_d (pt_1 (fun n d => r_aloadn gx282_19 rfl) ?_)
    refine pt_d (pt_getR gx282_20 S tr_72_10 ?_)
    refine pt_d (pt_bipush gx282_23 (fun v10 h10 => ?_))
    refine pt_d (pt_1 (fun n d => r_iloadn gx282_25 rfl) ?_)
    refine pt_d (pt_imul gx282_26 h10 z2 (fun v11 h11 => ?_))
    refine pt_d (pt_1 (fun n d => r_iloadn gx282_27 rfl) ?_)
    refine pt_d (pt_iadd gx282_28 h11 z3 (fun v12 h12 => ?_))
    refine pt_d (pt_iald (N' := 3600) gx282_29 S tl_80 h12 (fun v13 p13 q13 h13 => ?_))
    have H := H p13 q13
    refine pt_d (pt_iand gx282_30 h8 h13 (fun v14 h14 => ?_))
    refine pt_d (pt_if_eq gx282_31 h14 (fun e15 => ?_) (fun e15 => ?_))
    · have H := H.1 e15
      refine pt_d (pt_iinc (c := 1) gx282_36 rfl z3 (fun v16 h16 => ?_))
      show Pt _ _ _ _ [some (.ref 72), some (.int x1), some (.int x2), some (.int v16)] [] _ _
      refine pt_d (pt_1 (fun n d => r_goto gx282_39) ?_)
      exact H v16 h16
    · have H := H.2 e15
      refine pt_d (pt_iconst gx282_34 (fun v17 h17 => ?_))
      exact pt_d (pt_iret gx282_35 ⟨_, rfl, by rw [h17]; exact H⟩)
def mMt (V : vS) (a b : Int) : Prop := ∃ y, (0 ≤ y ∧ y < 24) ∧ bAnd (V 80 (24 * a + y)) (V 80 (24 * b + y)) ≠ 0
theorem l_282 {X : aX} {h : aH} {a b : Int} (S : wS h) (ha : 0 ≤ a ∧ a < 150) (hb : 0 ≤ b ∧ b < 150) : ∀ (n : Nat) (x1 x2 x3 : Int32) (k : Int), x1.toInt = a → x2.toInt = b → x3.toInt = k → 0 ≤ k → k ≤ 24 → (∀ y, 0 ≤ y → y < k → ¬ bAnd (vw h 80 (24 * a + y)) (vw h 80 (24 * b + y)) ≠ 0) → Pt n X zM282 2 [some (.ref 72), some (.int x1), some (.int x2), some (.int x3)] [] h (qI (fun r h' => h' = h ∧ r = bI (mMt (vw h) a b))) := by
  intro n
  induction n with
  | zero => intros; exact pt_z
  | succ n ih =>
    intro x1 x2 x3 k h1 h2 h3 k0 k1 no
    have next : bAnd (vw h 80 (24 * a + k)) (vw h 80 (24 * b + k)) = 0 → k < 24 → ∀ w : Int32, w.toInt = w32 (k + 1) → Pt n X zM282 2 [some (.ref 72), some (.int x1), some (.int x2), some (.int w)] [] h (qI (fun r h' => h' = h ∧ r = bI (mMt (vw h) a b))) := by
      intro z e w g
      replace g := w_1 g (by omega) (by omega)
      refine ih x1 x2 w (k + 1) h1 h2 g (by omega) (by omega) (fun y y0 yk => ?_)
      by_cases q : y = k
      · rw [q]
        exact fun w => w z
      · exact no y y0 (by omega)
    have wa : w32 (w32 (24 * a) + k) = 24 * a + k := by rw [w32_id (z := 24 * a) (by omega) (by omega), w32_id (by omega) (by omega)]
    have wb : w32 (w32 (24 * b) + k) = 24 * b + k := by rw [w32_id (z := 24 * b) (by omega) (by omega), w32_id (by omega) (by omega)]
    refine d282_2 S h1 h2 h3 ⟨fun e => ⟨rfl, (bI_f (fun ⟨y, m, z⟩ => no y m.1 (by omega) z)).symm⟩, fun e => fun _ _ _ _ => ?_⟩
    rw [wa, wb]
    exact ⟨fun z w g => next z e w g, fun z => ⟨rfl, (bI_t ⟨k, ⟨k0, e⟩, z⟩).symm⟩⟩
theorem c_282 {n : Nat} {X : aX} {h : aH} {x1 x2 : Int32} {a1 a2 : Int} (S : wS h) (z1 : x1.toInt = a1) (z2 : x2.toInt = a2) (hp : (0 ≤ a1 ∧ a1 < 150) ∧ 0 ≤ a2 ∧ a2 < 150) : Pt n X zM282 0 [some (.ref 72), some (.int x1), some (.int x2), none] [] h (qI (fun r h' => h' = h ∧ r = bI (mMt (vw h) a1 a2))) :=
  pt_d (d282_0 S z1 z2 (fun w g => l_282 S hp.1 hp.2 n x1 x2 w 0 z1 z2 g (Int.le_refl _) (by decide) (fun y a c => by omega)))

theorem d55_0 {n : Nat} {X : aX} {h : aH} {P : Int → aH → Prop} {x0 x1 : Int32} {a0 a1 : Int} {q2 : Nat} (S : wS h) (z0 : x0.toInt = a0) (z1 : x1.toInt = a1) (H : (∀ (w3 : Int32) (u4_ : Option Value), w3.toInt = 0 → Pt n X zM55 2 [some (.int x0), some (.int x1), some (.ref q2), some (.int w3), u4_] [] h (qI P))) : Pt (n + 1) X zM55 0 [some (.int x0), some (.int x1), some (.ref q2), none, none] [] h (qI P) := by
  refine pt_iconst gx55_0 (fun v1 h1 => ?_)
  refine pt_d (pt_1 (fun n d => r_istoren (L' := [some (.int x0), some (.int x1), some (.ref q2), some (.int v1), none]) gx55_1 rfl rfl) ?_)
  exact H v1 _ h1
theorem d55_2 {n : Nat} {X : aX} {h : aH} {P : Int → aH → Prop} {x0 x1 x3 : Int32} {a0 a1 a3 : Int} {u4 : Option Value} {q2 : Nat} (S : wS h) (z0 : x0.toInt = a0) (z1 : x1.toInt = a1) (z3 : x3.toInt = a3) (H : ((vw h q2 5 ≤ a3 → P 0 h) ∧ (a3 < vw h q2 5 → (∀ (w4 : Int32), w4.toInt = 0 → Pt n X zM55 13 [some (.int x0), some (.int x1), some (.ref q2), some (.int x3), some (.int w4)] [] h (qI P))))) : Pt (n + 1) X zM55 2 [some (.int x0), some (.int x1), some (.ref q2), some (.int x3), u4] [] h (qI P) := by
  refine pt_1 (fun n d => r_iloadn gx55_2 rfl) ?_
  refine pt_d (pt_1 (fun n d => r_aloadn gx55_3 rfl) ?_)
  refine pt_d (pt_getI (B := 5) gx55_4 S (fun v1 h1 => ?_))
  refine pt_d (pt_icmp_ge gx55_7 z3 h1 (fun e2 => ?_) (fun e2 => ?_))
  · have H := H.1 e2
    refine pt_d (pt_iconst gx55_69 (fun v3 h3 => ?_))
    exact pt_d (pt_iret gx55_70 ⟨_, rfl, by rw [h3]; exact H⟩)
  · have H := H.2 e2
    refine pt_d (pt_iconst gx55_10 (fun v4 h4 => ?_))
    refine pt_d (pt_1 (fun n d => r_istore (L' := [some (.int x0), some (.int x1), some (.ref q2), some (.int x3), some (.int v4)]) gx55_11 rfl rfl) ?_)
    exact H v4 h4
theorem d55_13 {n : Nat} {X : aX} {h : aH} {P : Int → aH → Prop} {x0 x1 x3 x4 : Int32} {a0 a1 a3 a4 : Int} {q2 : Nat} (S : wS h) (z0 : x0.toInt = a0) (z1 : x1.toInt = a1) (z3 : x3.toInt = a3) (z4 : x4.toInt = a4) (H : ((vw h q2 5 ≤ a4 → (∀ (w3 : Int32) (u4_ : Option Value), w3.toInt = w32 (a3 + 1) → Pt n X zM55 2 [some (.int x0), some (.int x1), some (.ref q2), some (.int w3), u4_] [] h (qI P))) ∧ (a4 < vw h q2 5 → ((vw h q2 1 = ((16 : Nat) : Int) ∧ vw h q2 6 = ((q2 + 1 : Nat) : Int)) ∧ (((vw h) 18 ((vw h) (q2 + 1) a3) ≠ a0 → (∀ (w3 : Int32) (u4_ : Option Value), w3.toInt = w32 (a3 + 1) → Pt n X zM55 2 [some (.int x0), some (.int x1), some (.ref q2), some (.int w3), u4_] [] h (qI P))) ∧ ((vw h) 18 ((vw h) (q2 + 1) a3) = a0 → ((vw h q2 1 = ((16 : Nat) : Int) ∧ vw h q2 6 = ((q2 + 1 : Nat) : Int)) ∧ (((vw h) 18 ((vw h) (q2 + 1) a4) ≠ a1 → (∀ (w4 : Int32), w4.toInt = w32 (a4 + 1) → Pt n X zM55 13 [some (.int x0), some (.int x1), some (.ref q2), some (.int x3), some (.int w4)] [] h (qI P))) ∧ ((vw h) 18 ((vw h) (q2 + 1) a4) = a1 → ((vw h q2 1 = ((16 : Nat) : Int) ∧ vw h q2 6 = ((q2 + 1 : Nat) : Int)) ∧ ((vw h q2 1 = ((16 : Nat) : Int) ∧ vw h q2 6 = ((q2 + 1 : Nat) : Int)) ∧ (((vw h) 17 ((vw h) (q2 + 1) a4) = (vw h) 17 ((vw h) (q2 + 1) a3) → (∀ (w4 : Int32), w4.toInt = w32 (a4 + 1) → Pt n X zM55 13 [some (.int x0), some (.int x1), some (.ref q2), some (.int x3), some (.int w4)] [] h (qI P))) ∧ ((vw h) 17 ((vw h) (q2 + 1) a4) ≠ (vw h) 17 ((vw h) (q2 + 1) a3) → P 1 h))))))))))))) : Pt (n + 1) X zM55 13 [some (.int x0), some (.int x1), some (.ref q2), some (.int x3), some (.int x4)] [] h (qI P) := by
  refine pt_1 (fun n d => r_iload gx55_13 rfl) ?_
  refine pt_d (pt_1 (fun n d => r_aloadn gx55_15 rfl) ?_)
  refine pt_d (pt_getI (B := 5) gx55_16 S (fun v1 h1 => ?_))
  refine pt_d (pt_icmp_ge gx55_19 z4 h1 (fun e2 => ?_) (fun e2 => ?_))
  · have H := H.1 e2
    refine pt_d (pt_iinc (c := 1) gx55_63 rfl z3 (fun v3 h3 => ?_))
    show Pt _ _ _ _ [some (.int x0), some (.int x1), some (.ref q2), some (.int v3), some (.int x4)] [] _ _
    refine pt_d (pt_1 (fun n d => r_goto gx55_66) ?_)
    exact H v3 _ h3
  · have H := H.2 e2
    refine pt_d (pt_1 (fun n d => r_aloadn gx55_22 rfl) ?_)
    refine pt_d (pt_1 (fun n d => r_iloadn gx55_23 rfl) ?_)
    obtain ⟨pr4, H⟩ := H
    refine pt_d (pt_virt (as := [.int x3]) (r := []) gx55_24 rfl (show zmt[101]? = some zM101 from rfl) rfl rfl rfl rfl (c_101 S z3 pr4) (kqP (fun v4 h4 => ?_)))
    show Pt _ _ _ 27 _ [.int v4] _ _
    refine pt_d (pt_1 (fun n d => r_iloadn gx55_27 rfl) ?_)
    refine pt_d (pt_icmp_ne gx55_28 h4 z0 (fun e5 => ?_) (fun e5 => ?_))
    · have H := H.1 e5
      refine pt_d (pt_iinc (c := 1) gx55_63 rfl z3 (fun v6 h6 => ?_))
      show Pt _ _ _ _ [some (.int x0), some (.int x1), some (.ref q2), some (.int v6), some (.int x4)] [] _ _
      refine pt_d (pt_1 (fun n d => r_goto gx55_66) ?_)
      exact H v6 _ h6
    · have H := H.2 e5
      refine pt_d (pt_1 (fun n d => r_aloadn gx55_31 rfl) ?_)
      refine pt_d (pt_1 (fun n d => r_iload gx55_32 rfl) ?_)
      obtain ⟨pr7, H⟩ := H
      refine pt_d (pt_virt (as := [.int x4]) (r := []) gx55_34 rfl (show zmt[101]? = some zM101 from rfl) rfl rfl rfl rfl (c_101 S z4 pr7) (kqP (fun v7 h7 => ?_)))
      show Pt _ _ _ 37 _ [.int v7] _ _
      refine pt_d (pt_1 (fun n d => r_iloadn gx55_37 rfl) ?_)
      refine pt_d (pt_icmp_ne gx55_38 h7 z1 (fun e8 => ?_) (fun e8 => ?_))
      · have H := H.1 e8
        refine pt_d (pt_iinc (c := 1) gx55_57 rfl z4 (fun v9 h9 => ?_))
        show Pt _ _ _ _ [some (.int x0), some (.int x1), some (.ref q2), some (.int x3), some (.int v9)] [] _ _
        refine pt_d (pt_1 (fun n d => r_goto gx55_60) ?_)
        exact H v9 h9
      · have H := H.2 e8
        refine pt_d (pt_1 (fun n d => r_aloadn gx55_41 rfl) ?_)
        refine pt_d (pt_1 (fun n d => r_iload gx55_42 rfl) ?_)
        obtain ⟨pr10, H⟩ := H
        refine pt_d (pt_virt (as := [.int x4]) (r := []) gx55_44 rfl (show zmt[100]? = some zM100 from rfl) rfl rfl rfl rfl (c_100 S z4 pr10) (kqP (fun v10 h10 => ?_)))
        show Pt _ _ _ 47 _ [.int v10] _ _
        refine pt_d (pt_1 (fun n d => r_aloadn gx55_47 rfl) ?_)
        refine pt_d (pt_1 (fun n d => r_iloadn gx55_48 rfl) ?_)
        obtain ⟨pr11, H⟩ := H
        refine pt_d (pt_virt (as := [.int x3]) (r := [.int v10]) gx55_49 rfl (show zmt[100]? = some zM100 from rfl) rfl rfl rfl rfl (c_100 S z3 pr11) (kqP (fun v11 h11 => ?_)))
        show Pt _ _ _ 52 _ [.int v11, .int v10] _ _
        refine pt_d (pt_icmp_eq gx55_52 h10 h11 (fun e12 => ?_) (fun e12 => ?_))
        · have H := H.1 e12
          refine pt_d (pt_iinc (c := 1) gx55_57 rfl z4 (fun v13 h13 => ?_))
          show Pt _ _ _ _ [some (.int x0), some (.int x1), some (.ref q2), some (.int x3), some (.int v13)] [] _ _
          refine pt_d (pt_1 (fun n d => r_goto gx55_60) ?_)
          exact H v13 h13
        · have H := H.2 e12
          refine pt_d (pt_iconst gx55_55 (fun v14 h14 => ?_))
          exact pt_d (pt_iret gx55_56 ⟨_, rfl, by rw [h14]; exact H⟩)
def two (V : vS) (q : Nat) (a b : Int) : Prop := ∃ i j, ((0 ≤ i ∧ i < V q 5) ∧ 0 ≤ j ∧ j < V q 5) ∧ V 18 (V (q + 1) i) = a ∧ V 18 (V (q + 1) j) = b ∧ V 17 (V (q + 1) j) ≠ V 17 (V (q + 1) i)
theorem l_55 {X : aX} {h : aH} {a b : Int} {q : Nat} (S : wS h) (L : vw h q 1 = ((16 : Nat) : Int) ∧ vw h q 6 = ((q + 1 : Nat) : Int)) (hN : vw h q 5 ≤ 300) : ∀ n : Nat, (∀ (x0 x1 x3 : Int32) (u4 : Option Value) (i : Int), x0.toInt = a → x1.toInt = b → x3.toInt = i → 0 ≤ i → (∀ i' j, 0 ≤ i' → i' < i → 0 ≤ j → j < vw h q 5 → ¬ (vw h 18 (vw h (q + 1) i') = a ∧ vw h 18 (vw h (q + 1) j) = b ∧ vw h 17 (vw h (q + 1) j) ≠ vw h 17 (vw h (q + 1) i'))) → Pt n X zM55 2 [some (.int x0), some (.int x1), some (.ref q), some (.int x3), u4] [] h (qI (fun r h' => h' = h ∧ r = bI (two (vw h) q a b)))) ∧
    (∀ (x0 x1 x3 x4 : Int32) (i j : Int), x0.toInt = a → x1.toInt = b → x3.toInt = i → x4.toInt = j → (0 ≤ i ∧ i < vw h q 5) → 0 ≤ j → (∀ i' j, 0 ≤ i' → i' < i → 0 ≤ j → j < vw h q 5 → ¬ (vw h 18 (vw h (q + 1) i') = a ∧ vw h 18 (vw h (q + 1) j) = b ∧ vw h 17 (vw h (q + 1) j) ≠ vw h 17 (vw h (q + 1) i'))) → (∀ j', 0 ≤ j' → j' < j → ¬ (vw h 18 (vw h (q + 1) j') = b ∧ vw h 17 (vw h (q + 1) j') ≠ vw h 17 (vw h (q + 1) i))) → Pt n X zM55 13 [some (.int x0), some (.int x1), some (.ref q), some (.int x3), some (.int x4)] [] h (qI (fun r h' => h' = h ∧ r = bI (two (vw h) q a b)))) := by
  intro n
  induction n with
  | zero => exact ⟨by intros; exact pt_z, by intros; exact pt_z⟩
  | succ n ih =>
    refine ⟨fun x0 x1 x3 u4 i h0 h1 h3 i0 no => ?_, fun x0 x1 x3 x4 i j h0 h1 h3 h4 hi j0 no nj => ?_⟩
    · refine d55_2 S h0 h1 h3 ⟨fun e => ⟨rfl, (bI_f (fun ⟨i', j, m, z⟩ => no i' j m.1.1 (by omega) m.2.1 m.2.2 z)).symm⟩, fun e w g => ?_⟩
      exact ih.2 x0 x1 x3 w i 0 h0 h1 h3 g ⟨i0, e⟩ (Int.le_refl _) no (fun j' a c => by omega)
    · have out : (∀ j', 0 ≤ j' → j' < vw h q 5 → ¬ (vw h 18 (vw h (q + 1) i) = a ∧ vw h 18 (vw h (q + 1) j') = b ∧ vw h 17 (vw h (q + 1) j') ≠ vw h 17 (vw h (q + 1) i))) → ∀ (w : Int32) (u : Option Value), w.toInt = w32 (i + 1) → Pt n X zM55 2 [some (.int x0), some (.int x1), some (.ref q), some (.int w), u] [] h (qI (fun r h' => h' = h ∧ r = bI (two (vw h) q a b))) := by
        intro z w u g
        replace g := w_1 g (by omega) (by omega)
        refine ih.1 x0 x1 w u (i + 1) h0 h1 g (by omega) (fun i' j' a c d e => ?_)
        by_cases y : i' = i
        · rw [y]
          exact z j' d e
        · exact no i' j' a (by omega) d e
      have next : j < vw h q 5 → ¬ (vw h 18 (vw h (q + 1) j) = b ∧ vw h 17 (vw h (q + 1) j) ≠ vw h 17 (vw h (q + 1) i)) → ∀ w : Int32, w.toInt = w32 (j + 1) → Pt n X zM55 13 [some (.int x0), some (.int x1), some (.ref q), some (.int x3), some (.int w)] [] h (qI (fun r h' => h' = h ∧ r = bI (two (vw h) q a b))) := by
        intro e z w g
        replace g := w_1 g (by omega) (by omega)
        refine ih.2 x0 x1 x3 w i (j + 1) h0 h1 h3 g hi (by omega) no (fun j' a c => ?_)
        by_cases y : j' = j
        · rw [y]
          exact z
        · exact nj j' a (by omega)
      refine d55_13 S h0 h1 h3 h4 ⟨fun e w u g => out (fun j' a c z => nj j' a (by omega) z.2) w u g, fun e => ⟨L, fun z w u g => out (fun j' a c y => z y.1) w u g, fun z => ⟨L, fun z2 w g => next e (fun y => z2 y.1) w g, fun z2 => ⟨L, L, fun z3 w g => next e (fun y => y.2 z3) w g, fun z3 => ⟨rfl, (bI_t ⟨i, j, ⟨hi, j0, e⟩, z, z2, z3⟩).symm⟩⟩⟩⟩⟩
theorem c_55 {n : Nat} {X : aX} {h : aH} {x0 x1 : Int32} {a0 a1 : Int} {q2 : Nat} (S : wS h) (z0 : x0.toInt = a0) (z1 : x1.toInt = a1) (hp : (vw h q2 1 = ((16 : Nat) : Int) ∧ vw h q2 6 = ((q2 + 1 : Nat) : Int)) ∧ vw h q2 5 ≤ 300) : Pt n X zM55 0 [some (.int x0), some (.int x1), some (.ref q2), none, none] [] h (qI (fun r h' => h' = h ∧ r = bI (two (vw h) q2 a0 a1))) :=
  pt_d (d55_0 S z0 z1 (fun w u g => (l_55 S hp.1 hp.2 n).1 x0 x1 w u 0 z0 z1 g (Int.le_refl _) (fun i j a c => by omega)))
end
section
-- ===== the least land =====
theorem d54_0 {n : Nat} {X : aX} {h : aH} {P : Int → aH → Prop} {x1 x2 : Int32} {a1 a2 : Int} {q3 : Nat} (S : wS h) (z1 : x1.toInt = a1) (z2 : x2.toInt = a2) (H : (∀ (w4 : Int32) (w5 : Int32), w4.toInt = 0 → w5.toInt = 0 → Pt n X zM54 6 [some (.ref 48), some (.int x1), some (.int x2), some (.ref q3), some (.int w4), some (.int w5)] [] h (qI P))) : Pt (n + 1) X zM54 0 [some (.ref 48), some (.int x1), some (.int x2), some (.ref q3), none, none] [] h (qI P) := by
  refine pt_iconst gx54_0 (fun v1 h1 => ?_)
  refine pt_d (pt_1 (fun n d => r_istore (L' := [some (.ref 48), some (.int x1), some (.int x2), some (.ref q3), some (.int v1), none]) gx54_1 rfl rfl) ?_)
  refine pt_d (pt_iconst gx54_3 (fun v2 h2 => ?_))
  refine pt_d (pt_1 (fun n d => r_istore (L' := [some (.ref 48), some (.int x1), some (.int x2), some (.ref q3), some (.int v1), some (.int v2)]) gx54_4 rfl rfl) ?_)
  exact H v1 v2 h1 h2
theorem d54_6 {n : Nat} {X : aX} {h : aH} {P : Int → aH → Prop} {x1 x2 x4 x5 : Int32} {a1 a2 a4 a5 : Int} {q3 : Nat} (S : wS h) (z1 : x1.toInt = a1) (z2 : x2.toInt = a2) (z4 : x4.toInt = a4) (z5 : x5.toInt = a5) (H : ((a2 ≤ a5 → P a4 h) ∧ (a5 < a2 → (0 ≤ a1 → a1 < 10 → (0 ≤ a5 → a5 < 10 → (((0 ≤ vw h 50 a1 ∧ vw h 50 a1 < 150) ∧ 0 ≤ vw h 50 a5 ∧ vw h 50 a5 < 150) ∧ ((¬ (cMt (vw h) (vw h 50 a1) (vw h 50 a5)) → (∀ (w5 : Int32), w5.toInt = w32 (a5 + 1) → Pt n X zM54 6 [some (.ref 48), some (.int x1), some (.int x2), some (.ref q3), some (.int x4), some (.int w5)] [] h (qI P))) ∧ ((cMt (vw h) (vw h 50 a1) (vw h 50 a5)) → (((vw h q3 1 = ((16 : Nat) : Int) ∧ vw h q3 6 = ((q3 + 1 : Nat) : Int)) ∧ vw h q3 5 ≤ 300) ∧ ((¬ (two (vw h) q3 (vw h 50 a1) (vw h 50 a5)) → (∀ (w5 : Int32), w5.toInt = w32 (a5 + 1) → Pt n X zM54 6 [some (.ref 48), some (.int x1), some (.int x2), some (.ref q3), some (.int x4), some (.int w5)] [] h (qI P))) ∧ ((two (vw h) q3 (vw h 50 a1) (vw h 50 a5)) → (∀ (w4 : Int32) (w5 : Int32), w4.toInt = bOr a4 (bShl 1 a5) → w5.toInt = w32 (a5 + 1) → Pt n X zM54 6 [some (.ref 48), some (.int x1), some (.int x2), some (.ref q3), some (.int w4), some (.int w5)] [] h (qI P))))))))))))) : Pt (n + 1) X zM54 6 [some (.ref 48), some (.int x1), some (.int x2), some (.ref q3), some (.int x4), some (.int x5)] [] h (qI P) := by
  refine pt_1 (fun n d => r_iload gx54_6 rfl) ?_
  refine pt_d (pt_1 (fun n d => r_iloadn gx54_8 rfl) ?_)
  refine pt_d (pt_icmp_ge gx54_9 z5 z2 (fun e1 => ?_) (fun e1 => ?_))
  · have H := H.1 e1
    refine pt_d (pt_1 (fun n d => r_iload gx54_70 rfl) ?_)
    exact pt_d (pt_iret gx54_72 ⟨_, rfl, by rw [z4]; exact H⟩)
  · have H := H.2 e1
    refine pt_d (pt_1 (fun n d => r_aloadn gx54_12 rfl) ?_)
    refine pt_d (pt_getR gx54_13 S tr_48_0 ?_)
    refine pt_d (pt_1 (fun n d => r_aloadn gx54_16 rfl) ?_)
    refine pt_d (pt_getR gx54_17 S tr_48_5 ?_)
    refine pt_d (pt_1 (fun n d => r_iloadn gx54_20 rfl) ?_)
    refine pt_d (pt_iald (N' := 10) gx54_21 S tl_50 z1 (fun v4 p4 q4 h4 => ?_))
    have H := H p4 q4
    refine pt_d (pt_1 (fun n d => r_aloadn gx54_22 rfl) ?_)
    refine pt_d (pt_getR gx54_23 S tr_48_5 ?_)
    refine pt_d (pt_1 (fun n d => r_iload gx54_26 rfl) ?_)
    refine pt_d (pt_iald (N' := 10) gx54_28 S tl_50 z5 (fun v6 p6 q6 h6 => ?_))
    have H := H p6 q6
    obtain ⟨pr7, H⟩ := H
    refine pt_d (pt_virt (as := [.int v4, .int v6]) (r := []) gx54_29 rfl (show zmt[84]? = some zM84 from rfl) rfl rfl rfl rfl (c_84 S h4 h6 pr7) (kqP (fun v7 h7 => ?_)))
    show Pt _ _ _ 32 _ [.int v7] _ _
    refine pt_d (pt_ifB_eq gx54_32 h7 (fun e8 => ?_) (fun e8 => ?_))
    · have H := H.1 e8
      refine pt_d (pt_iinc (c := 1) gx54_64 rfl z5 (fun v9 h9 => ?_))
      show Pt _ _ _ _ [some (.ref 48), some (.int x1), some (.int x2), some (.ref q3), some (.int x4), some (.int v9)] [] _ _
      refine pt_d (pt_1 (fun n d => r_goto gx54_67) ?_)
      exact H v9 h9
    · have H := H.2 e8
      refine pt_d (pt_1 (fun n d => r_aloadn gx54_35 rfl) ?_)
      refine pt_d (pt_getR gx54_36 S tr_48_5 ?_)
      refine pt_d (pt_1 (fun n d => r_iloadn gx54_39 rfl) ?_)
      refine pt_d (pt_iald (N' := 10) gx54_40 S tl_50 z1 (fun v11 p11 q11 h11 => ?_))
      refine pt_d (pt_1 (fun n d => r_aloadn gx54_41 rfl) ?_)
      refine pt_d (pt_getR gx54_42 S tr_48_5 ?_)
      refine pt_d (pt_1 (fun n d => r_iload gx54_45 rfl) ?_)
      refine pt_d (pt_iald (N' := 10) gx54_47 S tl_50 z5 (fun v13 p13 q13 h13 => ?_))
      refine pt_d (pt_1 (fun n d => r_aloadn gx54_48 rfl) ?_)
      obtain ⟨pr14, H⟩ := H
      refine pt_d (pt_stat (as := [.int v11, .int v13, .ref q3]) (r := []) gx54_49 rfl (show zmt[55]? = some zM55 from rfl) rfl rfl rfl rfl (c_55 S h11 h13 pr14) (kqP (fun v14 h14 => ?_)))
      show Pt _ _ _ 52 _ [.int v14] _ _
      refine pt_d (pt_ifB_eq gx54_52 h14 (fun e15 => ?_) (fun e15 => ?_))
      · have H := H.1 e15
        refine pt_d (pt_iinc (c := 1) gx54_64 rfl z5 (fun v16 h16 => ?_))
        show Pt _ _ _ _ [some (.ref 48), some (.int x1), some (.int x2), some (.ref q3), some (.int x4), some (.int v16)] [] _ _
        refine pt_d (pt_1 (fun n d => r_goto gx54_67) ?_)
        exact H v16 h16
      · have H := H.2 e15
        refine pt_d (pt_1 (fun n d => r_iload gx54_55 rfl) ?_)
        refine pt_d (pt_iconst gx54_57 (fun v17 h17 => ?_))
        refine pt_d (pt_1 (fun n d => r_iload gx54_58 rfl) ?_)
        refine pt_d (pt_ishl gx54_60 h17 z5 (fun v18 h18 => ?_))
        refine pt_d (pt_ior gx54_61 z4 h18 (fun v19 h19 => ?_))
        refine pt_d (pt_1 (fun n d => r_istore (L' := [some (.ref 48), some (.int x1), some (.int x2), some (.ref q3), some (.int v19), some (.int x5)]) gx54_62 rfl rfl) ?_)
        refine pt_d (pt_iinc (c := 1) gx54_64 rfl z5 (fun v20 h20 => ?_))
        show Pt _ _ _ _ [some (.ref 48), some (.int x1), some (.int x2), some (.ref q3), some (.int v19), some (.int v20)] [] _ _
        refine pt_d (pt_1 (fun n d => r_goto gx54_67) ?_)
        exact H v19 v20 h19 h20
noncomputable def nbS (R : Int → Prop) : Nat → Int
  | 0 => 0
  | j + 1 => @ite Int (R (j : Nat)) (Classical.propDecidable _) (bOr (nbS R j) (bShl 1 (j : Nat))) (nbS R j)
theorem nbS_t {R : Int → Prop} {j : Nat} (h : R (j : Nat)) : nbS R (j + 1) = bOr (nbS R j) (bShl 1 (j : Nat)) := if_pos h
theorem nbS_f {R : Int → Prop} {j : Nat} (h : ¬ R (j : Nat)) : nbS R (j + 1) = nbS R j := if_neg h
theorem nbS_b {R : Int → Prop} {x : Nat} (hx : x < 32) : ∀ n : Nat, n ≤ 24 → (tb (nbS R n) x = true ↔ x < n ∧ R (x : Nat))
  | 0, _ => by
    have : tb (nbS R 0) x = false := tb_0 hx
    rw [this]
    exact ⟨fun z => (by cases z), fun z => absurd z.1 (Nat.not_lt_zero _)⟩
  | n + 1, hn => by
    have ih := nbS_b (R := R) hx n (by omega)
    by_cases z : R (n : Nat)
    · rw [nbS_t z, tb_or, Bool.or_eq_true, ih, tb_1 ⟨n, by omega⟩ ⟨x, hx⟩, decide_eq_true_eq]
      constructor
      · rintro (⟨a, b⟩ | a)
        · exact ⟨by omega, b⟩
        · have a : x = n := a
          exact ⟨by omega, by rw [a]; exact z⟩
      · rintro ⟨a, b⟩
        by_cases y : x = n
        · exact Or.inr y
        · exact Or.inl ⟨by omega, b⟩
    · rw [nbS_f z, ih]
      constructor
      · rintro ⟨a, b⟩
        exact ⟨by omega, b⟩
      · rintro ⟨a, b⟩
        refine ⟨?_, b⟩
        by_cases y : x = n
        · rw [y] at b
          exact absurd b z
        · omega
theorem l_54 {X : aX} {h : aH} {i m : Int} {q : Nat} (S : wS h) (L : (vw h q 1 = ((16 : Nat) : Int) ∧ vw h q 6 = ((q + 1 : Nat) : Int)) ∧ vw h q 5 ≤ 300) (hm : m ≤ 10) (hi : 0 ≤ i ∧ i < m) (ht : ∀ j, 0 ≤ j → j < m → 0 ≤ vw h 50 j ∧ vw h 50 j < 150) : ∀ (n : Nat) (x1 x2 x4 x5 : Int32) (k : Nat), x1.toInt = i → x2.toInt = m → x4.toInt = nbS (fun j => cMt (vw h) (vw h 50 i) (vw h 50 j) ∧ two (vw h) q (vw h 50 i) (vw h 50 j)) k → x5.toInt = (k : Int) → (k : Int) ≤ m → Pt n X zM54 6 [some (.ref 48), some (.int x1), some (.int x2), some (.ref q), some (.int x4), some (.int x5)] [] h (qI (fun r h' => h' = h ∧ r = nbS (fun j => cMt (vw h) (vw h 50 i) (vw h 50 j) ∧ two (vw h) q (vw h 50 i) (vw h 50 j)) m.toNat)) := by
  intro n
  induction n with
  | zero => intros; exact pt_z
  | succ n ih =>
    intro x1 x2 x4 x5 k h1 h2 h4 h5 hk
    have skip : (k : Int) < m → ¬ (cMt (vw h) (vw h 50 i) (vw h 50 (k : Nat)) ∧ two (vw h) q (vw h 50 i) (vw h 50 (k : Nat))) → ∀ w : Int32, w.toInt = w32 ((k : Int) + 1) → Pt n X zM54 6 [some (.ref 48), some (.int x1), some (.int x2), some (.ref q), some (.int x4), some (.int w)] [] h (qI (fun r h' => h' = h ∧ r = nbS (fun j => cMt (vw h) (vw h 50 i) (vw h 50 j) ∧ two (vw h) q (vw h 50 i) (vw h 50 j)) m.toNat)) := by
      intro e z w g
      replace g := w_1 g (by omega) (by omega)
      refine ih x1 x2 x4 w (k + 1) h1 h2 ?_ (by omega) (by omega)
      rw [nbS_f (R := fun j => cMt (vw h) (vw h 50 i) (vw h 50 j) ∧ two (vw h) q (vw h 50 i) (vw h 50 j)) z]
      exact h4
    refine d54_6 S h1 h2 h4 h5 ⟨fun e => ⟨rfl, ?_⟩, fun e _ _ _ _ => ⟨⟨ht i hi.1 hi.2, ht (k : Nat) (by omega) e⟩, fun z w g => skip e (fun y => z y.1) w g, fun z => ⟨L, fun z2 w g => skip e (fun y => z2 y.2) w g, fun z2 w4 w5 g4 g5 => ?_⟩⟩⟩
    · rw [show m.toNat = k by omega]
    · replace g5 := w_1 g5 (by omega) (by omega)
      refine ih x1 x2 w4 w5 (k + 1) h1 h2 ?_ (by omega) (by omega)
      rw [nbS_t (R := fun j => cMt (vw h) (vw h 50 i) (vw h 50 j) ∧ two (vw h) q (vw h 50 i) (vw h 50 j)) ⟨z, z2⟩, g4]
theorem c_54 {n : Nat} {X : aX} {h : aH} {x1 x2 : Int32} {a1 a2 : Int} {q3 : Nat} (S : wS h) (z1 : x1.toInt = a1) (z2 : x2.toInt = a2) (hp : ((vw h q3 1 = ((16 : Nat) : Int) ∧ vw h q3 6 = ((q3 + 1 : Nat) : Int)) ∧ vw h q3 5 ≤ 300) ∧ a2 ≤ 10 ∧ (0 ≤ a1 ∧ a1 < a2) ∧ ∀ j, 0 ≤ j → j < a2 → 0 ≤ vw h 50 j ∧ vw h 50 j < 150) : Pt n X zM54 0 [some (.ref 48), some (.int x1), some (.int x2), some (.ref q3), none, none] [] h (qI (fun r h' => h' = h ∧ r = nbS (fun j => cMt (vw h) (vw h 50 a1) (vw h 50 j) ∧ two (vw h) q3 (vw h 50 a1) (vw h 50 j)) a2.toNat)) :=
  pt_d (d54_0 S z1 z2 (fun w4 w5 g4 g5 => l_54 S hp.1 hp.2.1 hp.2.2.1 hp.2.2.2 n x1 x2 w4 w5 0 z1 z2 g4 g5 (by have := hp.2.2.1; omega)))

theorem d57_0 {n : Nat} {X : aX} {h : aH} {P : Int → aH → Prop} {x1 x2 : Int32} {a1 a2 : Int} (S : wS h) (z1 : x1.toInt = a1) (z2 : x2.toInt = a2) (H : (∀ (w3 : Int32), w3.toInt = 0 → Pt n X zM57 2 [some (.ref 48), some (.int x1), some (.int x2), some (.int w3)] [] h (qI P))) : Pt (n + 1) X zM57 0 [some (.ref 48), some (.int x1), some (.int x2), none] [] h (qI P) := by
  refine pt_iconst gx57_0 (fun v1 h1 => ?_)
  refine pt_d (pt_1 (fun n d => r_istoren (L' := [some (.ref 48), some (.int x1), some (.int x2), some (.int v1)]) gx57_1 rfl rfl) ?_)
  exact H v1 h1
theorem d57_2 {n : Nat} {X : aX} {h : aH} {P : Int → aH → Prop} {x1 x2 x3 : Int32} {a1 a2 a3 : Int} (S : wS h) (z1 : x1.toInt = a1) (z2 : x2.toInt = a2) (z3 : x3.toInt = a3) (H : ((a2 ≤ a3 → P 1 h) ∧ (a3 < a2 → ((bAnd (bShr a1 a3) 1 ≠ 0 → (∀ (w3 : Int32), w3.toInt = w32 (a3 + 1) → Pt n X zM57 2 [some (.ref 48), some (.int x1), some (.int x2), some (.int w3)] [] h (qI P))) ∧ (bAnd (bShr a1 a3) 1 = 0 → (0 ≤ a3 → a3 < 10 → ((bAnd (vw h 51 a3) (bXor a1 (-1)) = 0 → (∀ (w3 : Int32), w3.toInt = w32 (a3 + 1) → Pt n X zM57 2 [some (.ref 48), some (.int x1), some (.int x2), some (.int w3)] [] h (qI P))) ∧ (bAnd (vw h 51 a3) (bXor a1 (-1)) ≠ 0 → P 0 h)))))))) : Pt (n + 1) X zM57 2 [some (.ref 48), some (.int x1), some (.int x2), some (.int x3)] [] h (qI P) := by
  refine pt_1 (fun n d => r_iloadn gx57_2 rfl) ?_
  refine pt_d (pt_1 (fun n d => r_iloadn gx57_3 rfl) ?_)
  refine pt_d (pt_icmp_ge gx57_4 z3 z2 (fun e1 => ?_) (fun e1 => ?_))
  · have H := H.1 e1
    refine pt_d (pt_iconst gx57_36 (fun v2 h2 => ?_))
    exact pt_d (pt_iret gx57_37 ⟨_, rfl, by rw [h2]; exact H⟩)
  · have H := H.2 e1
    refine pt_d (pt_1 (fun n d => r_iloadn gx57_7 rfl) ?_)
    refine pt_d (pt_1 (fun n d => r_iloadn gx57_8 rfl) ?_)
    refine pt_d (pt_ishr gx57_9 z1 z3 (fun v3 h3 => ?_))
    refine pt_d (pt_iconst gx57_10 (fun v4 h4 => ?_))
    refine pt_d (pt_iand gx57_11 h3 h4 (fun v5 h5 => ?_))
    refine pt_d (pt_if_ne gx57_12 h5 (fun e6 => ?_) (fun e6 => ?_))
    · have H := H.1 e6
      refine pt_d (pt_iinc (c := 1) gx57_30 rfl z3 (fun v7 h7 => ?_))
      show Pt _ _ _ _ [some (.ref 48), some (.int x1), some (.int x2), some (.int v7)] [] _ _
      refine pt_d (pt_1 (fun n d => r_goto gx57_33) ?_)
      exact H v7 h7
    · have H := H.2 e6
      refine pt_d (pt_1 (fun n d => r_aloadn gx57_15 rfl) ?_)
      refine pt_d (pt_getR gx57_16 S tr_48_6 ?_)
      refine pt_d (pt_1 (fun n d => r_iloadn gx57_19 rfl) ?_)
      refine pt_d (pt_iald (N' := 10) gx57_20 S tl_51 z3 (fun v9 p9 q9 h9 => ?_))
      have H := H p9 q9
      refine pt_d (pt_1 (fun n d => r_iloadn gx57_21 rfl) ?_)
      refine pt_d (pt_iconst gx57_22 (fun v10 h10 => ?_))
      refine pt_d (pt_ixor gx57_23 z1 h10 (fun v11 h11 => ?_))
      refine pt_d (pt_iand gx57_24 h9 h11 (fun v12 h12 => ?_))
      refine pt_d (pt_if_eq gx57_25 h12 (fun e13 => ?_) (fun e13 => ?_))
      · have H := H.1 e13
        refine pt_d (pt_iinc (c := 1) gx57_30 rfl z3 (fun v14 h14 => ?_))
        show Pt _ _ _ _ [some (.ref 48), some (.int x1), some (.int x2), some (.int v14)] [] _ _
        refine pt_d (pt_1 (fun n d => r_goto gx57_33) ?_)
        exact H v14 h14
      · have H := H.2 e13
        refine pt_d (pt_iconst gx57_28 (fun v15 h15 => ?_))
        exact pt_d (pt_iret gx57_29 ⟨_, rfl, by rw [h15]; exact H⟩)
theorem d59_0 {n : Nat} {X : aX} {h : aH} {P : Int → aH → Prop} {x1 x2 : Int32} {a1 a2 : Int} (S : wS h) (z1 : x1.toInt = a1) (z2 : x2.toInt = a2) (H : (∀ (w3 : Int32) (w4 : Int32), w3.toInt = 0 → w4.toInt = 0 → Pt n X zM59 5 [some (.ref 48), some (.int x1), some (.int x2), some (.int w3), some (.int w4)] [] h (qI P))) : Pt (n + 1) X zM59 0 [some (.ref 48), some (.int x1), some (.int x2), none, none] [] h (qI P) := by
  refine pt_iconst gx59_0 (fun v1 h1 => ?_)
  refine pt_d (pt_1 (fun n d => r_istoren (L' := [some (.ref 48), some (.int x1), some (.int x2), some (.int v1), none]) gx59_1 rfl rfl) ?_)
  refine pt_d (pt_iconst gx59_2 (fun v2 h2 => ?_))
  refine pt_d (pt_1 (fun n d => r_istore (L' := [some (.ref 48), some (.int x1), some (.int x2), some (.int v1), some (.int v2)]) gx59_3 rfl rfl) ?_)
  exact H v1 v2 h1 h2
theorem d59_5 {n : Nat} {X : aX} {h : aH} {P : Int → aH → Prop} {x1 x2 x3 x4 : Int32} {a1 a2 a3 a4 : Int} (S : wS h) (z1 : x1.toInt = a1) (z2 : x2.toInt = a2) (z3 : x3.toInt = a3) (z4 : x4.toInt = a4) (H : ((a2 ≤ a4 → P a3 h) ∧ (a4 < a2 → (0 ≤ a4 → a4 < 10 → (0 ≤ vw h 50 a4 → vw h 50 a4 < 150 → (∀ (w3 : Int32) (w4 : Int32), w3.toInt = w32 (a3 + (w32 ((bAnd (bShr a1 a4) 1) * (vw h 3 (vw h 50 a4))))) → w4.toInt = w32 (a4 + 1) → Pt n X zM59 5 [some (.ref 48), some (.int x1), some (.int x2), some (.int w3), some (.int w4)] [] h (qI P))))))) : Pt (n + 1) X zM59 5 [some (.ref 48), some (.int x1), some (.int x2), some (.int x3), some (.int x4)] [] h (qI P) := by
  refine pt_1 (fun n d => r_iload gx59_5 rfl) ?_
  refine pt_d (pt_1 (fun n d => r_iloadn gx59_7 rfl) ?_)
  refine pt_d (pt_icmp_ge gx59_8 z4 z2 (fun e1 => ?_) (fun e1 => ?_))
  · have H := H.1 e1
    refine pt_d (pt_1 (fun n d => r_iloadn gx59_42 rfl) ?_)
    exact pt_d (pt_iret gx59_43 ⟨_, rfl, by rw [z3]; exact H⟩)
  · have H := H.2 e1
    refine pt_d (pt_1 (fun n d => r_iloadn gx59_11 rfl) ?_)
    refine pt_d (pt_1 (fun n d => r_iloadn gx59_12 rfl) ?_)
    refine pt_d (pt_1 (fun n d => r_iload gx59_13 rfl) ?_)
    refine pt_d (pt_ishr gx59_15 z1 z4 (fun v2 h2 => ?_))
    refine pt_d (pt_iconst gx59_16 (fun v3 h3 => ?_))
    refine pt_d (pt_iand gx59_17 h2 h3 (fun v4 h4 => ?_))
    refine pt_d (pt_1 (fun n d => r_aloadn gx59_18 rfl) ?_)
    refine pt_d (pt_getR gx59_19 S tr_48_0 ?_)
    refine pt_d (pt_getR gx59_22 S tr_1_8 ?_)
    refine pt_d (pt_1 (fun n d => r_aloadn gx59_25 rfl) ?_)
    refine pt_d (pt_getR gx59_26 S tr_48_5 ?_)
    refine pt_d (pt_1 (fun n d => r_iload gx59_29 rfl) ?_)
    refine pt_d (pt_iald (N' := 10) gx59_31 S tl_50 z4 (fun v8 p8 q8 h8 => ?_))
    have H := H p8 q8
    refine pt_d (pt_iald (N' := 150) gx59_32 S tl_3 h8 (fun v9 p9 q9 h9 => ?_))
    have H := H p9 q9
    refine pt_d (pt_imul gx59_33 h4 h9 (fun v10 h10 => ?_))
    refine pt_d (pt_iadd gx59_34 z3 h10 (fun v11 h11 => ?_))
    refine pt_d (pt_1 (fun n d => r_istoren (L' := [some (.ref 48), some (.int x1), some (.int x2), some (.int v11), some (.int x4)]) gx59_35 rfl rfl) ?_)
    refine pt_d (pt_iinc (c := 1) gx59_36 rfl z4 (fun v12 h12 => ?_))
    show Pt _ _ _ _ [some (.ref 48), some (.int x1), some (.int x2), some (.int v11), some (.int v12)] [] _ _
    refine pt_d (pt_1 (fun n d => r_goto gx59_39) ?_)
    exact H v11 v12 h11 h12
def endA (V : vS) (s n : Int) : Prop := ∀ i, 0 ≤ i → i < n → bAnd (bShr s i) 1 = 0 → bAnd (V 51 i) (bXor s (-1)) = 0
theorem l_57 {X : aX} {h : aH} {s m : Int} (S : wS h) (hm : m ≤ 10) : ∀ (n : Nat) (x1 x2 x3 : Int32) (k : Int), x1.toInt = s → x2.toInt = m → x3.toInt = k → 0 ≤ k → (∀ i, 0 ≤ i → i < k → bAnd (bShr s i) 1 = 0 → bAnd (vw h 51 i) (bXor s (-1)) = 0) → Pt n X zM57 2 [some (.ref 48), some (.int x1), some (.int x2), some (.int x3)] [] h (qI (fun r h' => h' = h ∧ r = bI (endA (vw h) s m))) := by
  intro n
  induction n with
  | zero => intros; exact pt_z
  | succ n ih =>
    intro x1 x2 x3 k h1 h2 h3 k0 al
    have next : k < m → (bAnd (bShr s k) 1 = 0 → bAnd (vw h 51 k) (bXor s (-1)) = 0) → ∀ w : Int32, w.toInt = w32 (k + 1) → Pt n X zM57 2 [some (.ref 48), some (.int x1), some (.int x2), some (.int w)] [] h (qI (fun r h' => h' = h ∧ r = bI (endA (vw h) s m))) := by
      intro e z w g
      replace g := w_1 g (by omega) (by omega)
      refine ih x1 x2 w (k + 1) h1 h2 g (by omega) (fun i a c => ?_)
      by_cases y : i = k
      · rw [y]
        exact z
      · exact al i a (by omega)
    exact d57_2 S h1 h2 h3 ⟨fun e => ⟨rfl, (bI_t (fun i a c => al i a (by omega))).symm⟩, fun e => ⟨fun z w g => next e (fun y => absurd y z) w g, fun z _ _ => ⟨fun z2 w g => next e (fun _ => z2) w g, fun z2 => ⟨rfl, (bI_f (fun y => z2 (y k k0 e z))).symm⟩⟩⟩⟩
theorem c_57 {n : Nat} {X : aX} {h : aH} {x1 x2 : Int32} {a1 a2 : Int} (S : wS h) (z1 : x1.toInt = a1) (z2 : x2.toInt = a2) (hp : a2 ≤ 10) : Pt n X zM57 0 [some (.ref 48), some (.int x1), some (.int x2), none] [] h (qI (fun r h' => h' = h ∧ r = bI (endA (vw h) a1 a2))) :=
  pt_d (d57_0 S z1 z2 (fun w g => l_57 S hp n x1 x2 w 0 z1 z2 g (Int.le_refl _) (fun i a c => by omega)))
def arN (V : vS) (s : Int) : Nat → Int
  | 0 => 0
  | i + 1 => w32 (arN V s i + w32 (bAnd (bShr s (i : Nat)) 1 * V 3 (V 50 (i : Nat))))
theorem l_59 {X : aX} {h : aH} {s m : Int} (S : wS h) (hm : m ≤ 10) : ∀ (n : Nat) (x1 x2 x3 x4 : Int32) (k : Nat), x1.toInt = s → x2.toInt = m → x3.toInt = arN (vw h) s k → x4.toInt = (k : Int) → (k = 0 ∨ (k : Int) ≤ m) → Pt n X zM59 5 [some (.ref 48), some (.int x1), some (.int x2), some (.int x3), some (.int x4)] [] h (qI (fun r h' => h' = h ∧ r = arN (vw h) s m.toNat)) := by
  intro n
  induction n with
  | zero => intros; exact pt_z
  | succ n ih =>
    intro x1 x2 x3 x4 k h1 h2 h3 h4 hk
    refine d59_5 S h1 h2 h3 h4 ⟨fun e => ⟨rfl, ?_⟩, fun e _ _ _ _ w3 w4 g3 g4 => ?_⟩
    · rw [show m.toNat = k by omega]
    · replace g4 := w_1 g4 (by omega) (by omega)
      exact ih x1 x2 w3 w4 (k + 1) h1 h2 g3 (by omega) (Or.inr (by omega))
theorem c_59 {n : Nat} {X : aX} {h : aH} {x1 x2 : Int32} {a1 a2 : Int} (S : wS h) (z1 : x1.toInt = a1) (z2 : x2.toInt = a2) (hp : a2 ≤ 10) : Pt n X zM59 0 [some (.ref 48), some (.int x1), some (.int x2), none, none] [] h (qI (fun r h' => h' = h ∧ r = arN (vw h) a1 a2.toNat)) :=
  pt_d (d59_0 S z1 z2 (fun w3 w4 g3 g4 => l_59 S hp n x1 x2 w3 w4 0 z1 z2 g3 g4 (Or.inl rfl)))

theorem d328_0 {n : Nat} {X : aX} {h : aH} {P : Int → aH → Prop} {x0 x1 : Int32} {a0 a1 : Int} (S : wS h) (z0 : x0.toInt = a0) (z1 : x1.toInt = a1) (H : ((a1 ≤ a0 → ((a0 ≠ a1 → P 1 h) ∧ (a0 = a1 → P 0 h))) ∧ (a0 < a1 → P (-1) h))) : Pt (n + 1) X zM328 0 [some (.int x0), some (.int x1)] [] h (qI P) := by
  refine pt_1 (fun n d => r_iloadn gx328_0 rfl) ?_
  refine pt_d (pt_1 (fun n d => r_iloadn gx328_1 rfl) ?_)
  refine pt_d (pt_icmp_ge gx328_2 z0 z1 (fun e1 => ?_) (fun e1 => ?_))
  · have H := H.1 e1
    refine pt_d (pt_1 (fun n d => r_iloadn gx328_9 rfl) ?_)
    refine pt_d (pt_1 (fun n d => r_iloadn gx328_10 rfl) ?_)
    refine pt_d (pt_icmp_ne gx328_11 z0 z1 (fun e2 => ?_) (fun e2 => ?_))
    · have H := H.1 e2
      refine pt_d (pt_iconst gx328_18 (fun v3 h3 => ?_))
      exact pt_d (pt_iret gx328_19 ⟨_, rfl, by rw [h3]; exact H⟩)
    · have H := H.2 e2
      refine pt_d (pt_iconst gx328_14 (fun v4 h4 => ?_))
      refine pt_d (pt_1 (fun n d => r_goto gx328_15) ?_)
      exact pt_d (pt_iret gx328_19 ⟨_, rfl, by rw [h4]; exact H⟩)
  · have H := H.2 e1
    refine pt_d (pt_iconst gx328_5 (fun v5 h5 => ?_))
    refine pt_d (pt_1 (fun n d => r_goto gx328_6) ?_)
    exact pt_d (pt_iret gx328_19 ⟨_, rfl, by rw [h5]; exact H⟩)
def icm (a b : Int) : Int := if a < b then -1 else if a = b then 0 else 1
theorem c_328 {n : Nat} {X : aX} {h : aH} {x0 x1 : Int32} {a0 a1 : Int} (S : wS h) (z0 : x0.toInt = a0) (z1 : x1.toInt = a1) : Pt n X zM328 0 [some (.int x0), some (.int x1)] [] h (qI (fun r h' => h' = h ∧ r = icm a0 a1)) := by
  refine pt_d (d328_0 S z0 z1 ⟨fun e => ⟨fun e2 => ⟨rfl, ?_⟩, fun e2 => ⟨rfl, ?_⟩⟩, fun e => ⟨rfl, ?_⟩⟩)
  · unfold icm
    rw [if_neg (by omega), if_neg e2]
  · unfold icm
    rw [if_neg (by omega), if_pos e2]
  · unfold icm
    rw [if_pos e]

theorem d58_0 {n : Nat} {X : aX} {h : aH} {P : Int → aH → Prop} {x1 x2 x3 : Int32} {a1 a2 a3 : Int} (S : wS h) (z1 : x1.toInt = a1) (z2 : x2.toInt = a2) (z3 : x3.toInt = a3) (H : ((a3 ≤ 10) ∧ ((a3 ≤ 10) ∧ ((arN (vw h) a1 (a3).toNat = arN (vw h) a2 (a3).toNat → (((0 : Int) ≤ a1) ∧ (((0 : Int) ≤ a2) ∧ ((icm (bcn (tb a1) 32) (bcn (tb a2) 32) = 0 → ((a2 ≤ a1 → P 0 h) ∧ (a1 < a2 → P 1 h))) ∧ (icm (bcn (tb a1) 32) (bcn (tb a2) 32) ≠ 0 → ((0 ≤ icm (bcn (tb a1) 32) (bcn (tb a2) 32) → P 0 h) ∧ (icm (bcn (tb a1) 32) (bcn (tb a2) 32) < 0 → P 1 h))))))) ∧ (arN (vw h) a1 (a3).toNat ≠ arN (vw h) a2 (a3).toNat → ((arN (vw h) a2 (a3).toNat ≤ arN (vw h) a1 (a3).toNat → P 0 h) ∧ (arN (vw h) a1 (a3).toNat < arN (vw h) a2 (a3).toNat → P 1 h))))))) : Pt (n + 1) X zM58 0 [some (.ref 48), some (.int x1), some (.int x2), some (.int x3), none, none, none] [] h (qI P) := by
  refine pt_1 (fun n d => r_aloadn gx58_0 rfl) ?_
  refine pt_d (pt_1 (fun n d => r_iloadn gx58_1 rfl) ?_)
  refine pt_d (pt_1 (fun n d => r_iloadn gx58_2 rfl) ?_)
  obtain ⟨pr1, H⟩ := H
  refine pt_d (pt_virt (as := [.int x1, .int x3]) (r := []) gx58_3 rfl (show zmt[59]? = some zM59 from rfl) rfl rfl rfl rfl (c_59 S z1 z3 pr1) (kqP (fun v1 h1 => ?_)))
  show Pt _ _ _ 6 _ [.int v1] _ _
  refine pt_d (pt_1 (fun n d => r_istore (L' := [some (.ref 48), some (.int x1), some (.int x2), some (.int x3), some (.int v1), none, none]) gx58_6 rfl rfl) ?_)
  refine pt_d (pt_1 (fun n d => r_aloadn gx58_8 rfl) ?_)
  refine pt_d (pt_1 (fun n d => r_iloadn gx58_9 rfl) ?_)
  refine pt_d (pt_1 (fun n d => r_iloadn gx58_10 rfl) ?_)
  obtain ⟨pr2, H⟩ := H
  refine pt_d (pt_virt (as := [.int x2, .int x3]) (r := []) gx58_11 rfl (show zmt[59]? = some zM59 from rfl) rfl rfl rfl rfl (c_59 S z2 z3 pr2) (kqP (fun v2 h2 => ?_)))
  show Pt _ _ _ 14 _ [.int v2] _ _
  refine pt_d (pt_1 (fun n d => r_istore (L' := [some (.ref 48), some (.int x1), some (.int x2), some (.int x3), some (.int v1), some (.int v2), none]) gx58_14 rfl rfl) ?_)
  refine pt_d (pt_1 (fun n d => r_iload gx58_16 rfl) ?_)
  refine pt_d (pt_1 (fun n d => r_iload gx58_18 rfl) ?_)
  refine pt_d (pt_icmp_eq gx58_20 h1 h2 (fun e3 => ?_) (fun e3 => ?_))
  · have H := H.1 e3
    refine pt_d (pt_1 (fun n d => r_iloadn gx58_36 rfl) ?_)
    obtain ⟨pr4, H⟩ := H
    refine pt_d (pt_stat (as := [.int x1]) (r := []) gx58_37 rfl (show zmt[329]? = some zM329 from rfl) rfl rfl rfl rfl (c_329 S z1 pr4) (kqP (fun v4 h4 => ?_)))
    show Pt _ _ _ 40 _ [.int v4] _ _
    refine pt_d (pt_1 (fun n d => r_iloadn gx58_40 rfl) ?_)
    obtain ⟨pr5, H⟩ := H
    refine pt_d (pt_stat (as := [.int x2]) (r := [.int v4]) gx58_41 rfl (show zmt[329]? = some zM329 from rfl) rfl rfl rfl rfl (c_329 S z2 pr5) (kqP (fun v5 h5 => ?_)))
    show Pt _ _ _ 44 _ [.int v5, .int v4] _ _
    refine pt_d (pt_stat (as := [.int v4, .int v5]) (r := []) gx58_44 rfl (show zmt[328]? = some zM328 from rfl) rfl rfl rfl rfl (c_328 S h4 h5) (kqP (fun v6 h6 => ?_)))
    show Pt _ _ _ 47 _ [.int v6] _ _
    refine pt_d (pt_1 (fun n d => r_istore (L' := [some (.ref 48), some (.int x1), some (.int x2), some (.int x3), some (.int v1), some (.int v2), some (.int v6)]) gx58_47 rfl rfl) ?_)
    refine pt_d (pt_1 (fun n d => r_iload gx58_49 rfl) ?_)
    refine pt_d (pt_if_eq gx58_51 h6 (fun e7 => ?_) (fun e7 => ?_))
    · have H := H.1 e7
      refine pt_d (pt_1 (fun n d => r_iloadn gx58_67 rfl) ?_)
      refine pt_d (pt_1 (fun n d => r_iloadn gx58_68 rfl) ?_)
      refine pt_d (pt_icmp_ge gx58_69 z1 z2 (fun e8 => ?_) (fun e8 => ?_))
      · have H := H.1 e8
        refine pt_d (pt_iconst gx58_76 (fun v9 h9 => ?_))
        exact pt_d (pt_iret gx58_77 ⟨_, rfl, by rw [h9]; exact H⟩)
      · have H := H.2 e8
        refine pt_d (pt_iconst gx58_72 (fun v10 h10 => ?_))
        refine pt_d (pt_1 (fun n d => r_goto gx58_73) ?_)
        exact pt_d (pt_iret gx58_77 ⟨_, rfl, by rw [h10]; exact H⟩)
    · have H := H.2 e7
      refine pt_d (pt_1 (fun n d => r_iload gx58_54 rfl) ?_)
      refine pt_d (pt_if_ge gx58_56 h6 (fun e11 => ?_) (fun e11 => ?_))
      · have H := H.1 e11
        refine pt_d (pt_iconst gx58_63 (fun v12 h12 => ?_))
        refine pt_d (pt_1 (fun n d => r_goto gx58_64) ?_)
        exact pt_d (pt_iret gx58_77 ⟨_, rfl, by rw [h12]; exact H⟩)
      · have H := H.2 e11
        refine pt_d (pt_iconst gx58_59 (fun v13 h13 => ?_))
        refine pt_d (pt_1 (fun n d => r_goto gx58_60) ?_)
        exact pt_d (pt_iret gx58_77 ⟨_, rfl, by rw [h13]; exact H⟩)
  · have H := H.2 e3
    refine pt_d (pt_1 (fun n d => r_iload gx58_23 rfl) ?_)
    refine pt_d (pt_1 (fun n d => r_iload gx58_25 rfl) ?_)
    refine pt_d (pt_icmp_ge gx58_27 h1 h2 (fun e14 => ?_) (fun e14 => ?_))
    · have H := H.1 e14
      refine pt_d (pt_iconst gx58_34 (fun v15 h15 => ?_))
      exact pt_d (pt_iret gx58_35 ⟨_, rfl, by rw [h15]; exact H⟩)
    · have H := H.2 e14
      refine pt_d (pt_iconst gx58_30 (fun v16 h16 => ?_))
      refine pt_d (pt_1 (fun n d => r_goto gx58_31) ?_)
      exact pt_d (pt_iret gx58_35 ⟨_, rfl, by rw [h16]; exact H⟩)
def isL (V : vS) (s b n : Int) : Prop := arN V s n.toNat < arN V b n.toNat ∨ (arN V s n.toNat = arN V b n.toNat ∧ (bcn (tb s) 32 < bcn (tb b) 32 ∨ (bcn (tb s) 32 = bcn (tb b) 32 ∧ s < b)))
theorem c_58 {n : Nat} {X : aX} {h : aH} {x1 x2 x3 : Int32} {a1 a2 a3 : Int} (S : wS h) (z1 : x1.toInt = a1) (z2 : x2.toInt = a2) (z3 : x3.toInt = a3) (hp : (0 ≤ a1 ∧ 0 ≤ a2) ∧ a3 ≤ 10) : Pt n X zM58 0 [some (.ref 48), some (.int x1), some (.int x2), some (.int x3), none, none, none] [] h (qI (fun r h' => h' = h ∧ r = bI (isL (vw h) a1 a2 a3))) := by
  have ic : ∀ a b : Int, (icm a b = 0 ↔ a = b) ∧ (icm a b < 0 ↔ a < b) := fun a b => by
    unfold icm
    by_cases x : a < b
    · rw [if_pos x]
      omega
    · by_cases y : a = b
      · rw [if_neg x, if_pos y]
        omega
      · rw [if_neg x, if_neg y]
        omega
  refine pt_d (d58_0 S z1 z2 z3 ⟨hp.2, hp.2, fun e => ⟨hp.1.1, hp.1.2, fun c => ⟨fun l => ⟨rfl, (bI_f ?_).symm⟩, fun l => ⟨rfl, (bI_t ?_).symm⟩⟩, fun c => ⟨fun l => ⟨rfl, (bI_f ?_).symm⟩, fun l => ⟨rfl, (bI_t ?_).symm⟩⟩⟩, fun e => ⟨fun l => ⟨rfl, (bI_f ?_).symm⟩, fun l => ⟨rfl, (bI_t (Or.inl l)).symm⟩⟩⟩)
  · rw [(ic _ _).1] at c
    unfold isL
    omega
  · rw [(ic _ _).1] at c
    unfold isL
    omega
  · have n1 : ¬ bcn (tb a1) 32 = bcn (tb a2) 32 := fun w => c ((ic (bcn (tb a1) 32) (bcn (tb a2) 32)).1.mpr w)
    have n2 : ¬ bcn (tb a1) 32 < bcn (tb a2) 32 := fun w => by
      have := (ic _ _).2.mpr w
      omega
    unfold isL
    omega
  · rw [(ic _ _).2] at l
    unfold isL
    omega
  · unfold isL
    omega
end
section
-- ===== the least land =====
theorem d56_0 {n : Nat} {X : aX} {h : aH} {P : Int → aH → Prop} {x1 : Int32} {a1 : Int} (S : wS h) (z1 : x1.toInt = a1) (H : (∀ (w2 : Int32) (w3 : Int32), w2.toInt = w32 ((bShl 1 a1) - 1) → w3.toInt = 0 → Pt n X zM56 8 [some (.ref 48), some (.int x1), some (.int w2), some (.int w3)] [] h (qI P))) : Pt (n + 1) X zM56 0 [some (.ref 48), some (.int x1), none, none] [] h (qI P) := by
  refine pt_iconst gx56_0 (fun v1 h1 => ?_)
  refine pt_d (pt_1 (fun n d => r_iloadn gx56_1 rfl) ?_)
  refine pt_d (pt_ishl gx56_2 h1 z1 (fun v2 h2 => ?_))
  refine pt_d (pt_iconst gx56_3 (fun v3 h3 => ?_))
  refine pt_d (pt_isub gx56_4 h2 h3 (fun v4 h4 => ?_))
  refine pt_d (pt_1 (fun n d => r_istoren (L' := [some (.ref 48), some (.int x1), some (.int v4), none]) gx56_5 rfl rfl) ?_)
  refine pt_d (pt_iconst gx56_6 (fun v5 h5 => ?_))
  refine pt_d (pt_1 (fun n d => r_istoren (L' := [some (.ref 48), some (.int x1), some (.int v4), some (.int v5)]) gx56_7 rfl rfl) ?_)
  exact H v4 v5 h4 h5
theorem d56_8 {n : Nat} {X : aX} {h : aH} {P : Int → aH → Prop} {x1 x2 x3 : Int32} {a1 a2 a3 : Int} (S : wS h) (z1 : x1.toInt = a1) (z2 : x2.toInt = a2) (z3 : x3.toInt = a3) (H : ((bShl 1 a1 ≤ a3 → P a2 h) ∧ (a3 < bShl 1 a1 → ((a1 ≤ 10) ∧ ((¬ (endA (vw h) a3 a1) → (∀ (w3 : Int32), w3.toInt = w32 (a3 + 1) → Pt n X zM56 8 [some (.ref 48), some (.int x1), some (.int x2), some (.int w3)] [] h (qI P))) ∧ ((endA (vw h) a3 a1) → (((0 ≤ a3 ∧ 0 ≤ a2) ∧ a1 ≤ 10) ∧ ((¬ (isL (vw h) a3 a2 a1) → (∀ (w3 : Int32), w3.toInt = w32 (a3 + 1) → Pt n X zM56 8 [some (.ref 48), some (.int x1), some (.int x2), some (.int w3)] [] h (qI P))) ∧ ((isL (vw h) a3 a2 a1) → (∀ (w3 : Int32), w3.toInt = w32 (a3 + 1) → Pt n X zM56 8 [some (.ref 48), some (.int x1), some (.int x3), some (.int w3)] [] h (qI P))))))))))) : Pt (n + 1) X zM56 8 [some (.ref 48), some (.int x1), some (.int x2), some (.int x3)] [] h (qI P) := by
  refine pt_1 (fun n d => r_iloadn gx56_8 rfl) ?_
  refine pt_d (pt_iconst gx56_9 (fun v1 h1 => ?_))
  refine pt_d (pt_1 (fun n d => r_iloadn gx56_10 rfl) ?_)
  refine pt_d (pt_ishl gx56_11 h1 z1 (fun v2 h2 => ?_))
  refine pt_d (pt_icmp_ge gx56_12 z3 h2 (fun e3 => ?_) (fun e3 => ?_))
  · have H := H.1 e3
    refine pt_d (pt_1 (fun n d => r_iloadn gx56_42 rfl) ?_)
    exact pt_d (pt_iret gx56_43 ⟨_, rfl, by rw [z2]; exact H⟩)
  · have H := H.2 e3
    refine pt_d (pt_1 (fun n d => r_aloadn gx56_15 rfl) ?_)
    refine pt_d (pt_1 (fun n d => r_iloadn gx56_16 rfl) ?_)
    refine pt_d (pt_1 (fun n d => r_iloadn gx56_17 rfl) ?_)
    obtain ⟨pr4, H⟩ := H
    refine pt_d (pt_virt (as := [.int x3, .int x1]) (r := []) gx56_18 rfl (show zmt[57]? = some zM57 from rfl) rfl rfl rfl rfl (c_57 S z3 z1 pr4) (kqP (fun v4 h4 => ?_)))
    show Pt _ _ _ 21 _ [.int v4] _ _
    refine pt_d (pt_ifB_eq gx56_21 h4 (fun e5 => ?_) (fun e5 => ?_))
    · have H := H.1 e5
      refine pt_d (pt_iinc (c := 1) gx56_36 rfl z3 (fun v6 h6 => ?_))
      show Pt _ _ _ _ [some (.ref 48), some (.int x1), some (.int x2), some (.int v6)] [] _ _
      refine pt_d (pt_1 (fun n d => r_goto gx56_39) ?_)
      exact H v6 h6
    · have H := H.2 e5
      refine pt_d (pt_1 (fun n d => r_aloadn gx56_24 rfl) ?_)
      refine pt_d (pt_1 (fun n d => r_iloadn gx56_25 rfl) ?_)
      refine pt_d (pt_1 (fun n d => r_iloadn gx56_26 rfl) ?_)
      refine pt_d (pt_1 (fun n d => r_iloadn gx56_27 rfl) ?_)
      obtain ⟨pr7, H⟩ := H
      refine pt_d (pt_virt (as := [.int x3, .int x2, .int x1]) (r := []) gx56_28 rfl (show zmt[58]? = some zM58 from rfl) rfl rfl rfl rfl (c_58 S z3 z2 z1 pr7) (kqP (fun v7 h7 => ?_)))
      show Pt _ _ _ 31 _ [.int v7] _ _
      refine pt_d (pt_ifB_eq gx56_31 h7 (fun e8 => ?_) (fun e8 => ?_))
      · have H := H.1 e8
        refine pt_d (pt_iinc (c := 1) gx56_36 rfl z3 (fun v9 h9 => ?_))
        show Pt _ _ _ _ [some (.ref 48), some (.int x1), some (.int x2), some (.int v9)] [] _ _
        refine pt_d (pt_1 (fun n d => r_goto gx56_39) ?_)
        exact H v9 h9
      · have H := H.2 e8
        refine pt_d (pt_1 (fun n d => r_iloadn gx56_34 rfl) ?_)
        refine pt_d (pt_1 (fun n d => r_istoren (L' := [some (.ref 48), some (.int x1), some (.int x3), some (.int x3)]) gx56_35 rfl rfl) ?_)
        refine pt_d (pt_iinc (c := 1) gx56_36 rfl z3 (fun v10 h10 => ?_))
        show Pt _ _ _ _ [some (.ref 48), some (.int x1), some (.int x3), some (.int v10)] [] _ _
        refine pt_d (pt_1 (fun n d => r_goto gx56_39) ?_)
        exact H v10 h10
theorem d60_0 {n : Nat} {X : aX} {h : aH} {P : Int → aH → Prop} {x1 x2 : Int32} {a1 a2 : Int} (S : wS h) (z1 : x1.toInt = a1) (z2 : x2.toInt = a2) (H : ∀ h_2 : aH, wS h_2 → vw h_2 = up (vw h) 48 4 0 → (∀ (w3 : Int32), w3.toInt = 0 → Pt n X zM60 7 [some (.ref 48), some (.int x1), some (.int x2), some (.int w3)] [] h_2 (qI P))) : Pt (n + 1) X zM60 0 [some (.ref 48), some (.int x1), some (.int x2), none] [] h (qI P) := by
  refine pt_1 (fun n d => r_aloadn gx60_0 rfl) ?_
  refine pt_d (pt_iconst gx60_1 (fun v1 h1 => ?_))
  refine pt_d (pt_putI (B := 4) gx60_2 S h1 (fun h_2 S2 e2 => ?_))
  refine pt_d (pt_iconst gx60_5 (fun v3 h3 => ?_))
  refine pt_d (pt_1 (fun n d => r_istoren (L' := [some (.ref 48), some (.int x1), some (.int x2), some (.int v3)]) gx60_6 rfl rfl) ?_)
  have H := H h_2 S2 (by rw [e2])
  exact H v3 h3
theorem d60_7 {n : Nat} {X : aX} {h : aH} {P : Int → aH → Prop} {x1 x2 x3 : Int32} {a1 a2 a3 : Int} (S : wS h) (z1 : x1.toInt = a1) (z2 : x2.toInt = a2) (z3 : x3.toInt = a3) (H : ((a2 ≤ a3 → ((a2 ≤ 10) ∧ P (arN (vw h) a1 (a2).toNat) h)) ∧ (a3 < a2 → ((bAnd (bShr a1 a3) 1 ≠ 1 → (∀ (w3 : Int32), w3.toInt = w32 (a3 + 1) → Pt n X zM60 7 [some (.ref 48), some (.int x1), some (.int x2), some (.int w3)] [] h (qI P))) ∧ (bAnd (bShr a1 a3) 1 = 1 → (0 ≤ a3 → a3 < 10 → (0 ≤ vw h 48 4 → vw h 48 4 < 10 → ∀ h_17 : aH, wS h_17 → vw h_17 = up (up (vw h) 49 (vw h 48 4) (vw h 50 a3)) 48 4 (w32 ((vw h 48 4) + 1)) → (∀ (w3 : Int32), w3.toInt = w32 (a3 + 1) → Pt n X zM60 7 [some (.ref 48), some (.int x1), some (.int x2), some (.int w3)] [] h_17 (qI P))))))))) : Pt (n + 1) X zM60 7 [some (.ref 48), some (.int x1), some (.int x2), some (.int x3)] [] h (qI P) := by
  refine pt_1 (fun n d => r_iloadn gx60_7 rfl) ?_
  refine pt_d (pt_1 (fun n d => r_iloadn gx60_8 rfl) ?_)
  refine pt_d (pt_icmp_ge gx60_9 z3 z2 (fun e1 => ?_) (fun e1 => ?_))
  · have H := H.1 e1
    refine pt_d (pt_1 (fun n d => r_aloadn gx60_52 rfl) ?_)
    refine pt_d (pt_1 (fun n d => r_iloadn gx60_53 rfl) ?_)
    refine pt_d (pt_1 (fun n d => r_iloadn gx60_54 rfl) ?_)
    obtain ⟨pr2, H⟩ := H
    refine pt_d (pt_virt (as := [.int x1, .int x2]) (r := []) gx60_55 rfl (show zmt[59]? = some zM59 from rfl) rfl rfl rfl rfl (c_59 S z1 z2 pr2) (kqP (fun v2 h2 => ?_)))
    show Pt _ _ _ 58 _ [.int v2] _ _
    exact pt_d (pt_iret gx60_58 ⟨_, rfl, by rw [h2]; exact H⟩)
  · have H := H.2 e1
    refine pt_d (pt_1 (fun n d => r_iloadn gx60_12 rfl) ?_)
    refine pt_d (pt_1 (fun n d => r_iloadn gx60_13 rfl) ?_)
    refine pt_d (pt_ishr gx60_14 z1 z3 (fun v3 h3 => ?_))
    refine pt_d (pt_iconst gx60_15 (fun v4 h4 => ?_))
    refine pt_d (pt_iand gx60_16 h3 h4 (fun v5 h5 => ?_))
    refine pt_d (pt_iconst gx60_17 (fun v6 h6 => ?_))
    refine pt_d (pt_icmp_ne gx60_18 h5 h6 (fun e7 => ?_) (fun e7 => ?_))
    · have H := H.1 e7
      refine pt_d (pt_iinc (c := 1) gx60_46 rfl z3 (fun v8 h8 => ?_))
      show Pt _ _ _ _ [some (.ref 48), some (.int x1), some (.int x2), some (.int v8)] [] _ _
      refine pt_d (pt_1 (fun n d => r_goto gx60_49) ?_)
      exact H v8 h8
    · have H := H.2 e7
      refine pt_d (pt_1 (fun n d => r_aloadn gx60_21 rfl) ?_)
      refine pt_d (pt_getR gx60_22 S tr_48_3 ?_)
      refine pt_d (pt_1 (fun n d => r_aloadn gx60_25 rfl) ?_)
      refine pt_d (pt_getI (B := 4) gx60_26 S (fun v10 h10 => ?_))
      refine pt_d (pt_1 (fun n d => r_aloadn gx60_29 rfl) ?_)
      refine pt_d (pt_getR gx60_30 S tr_48_5 ?_)
      refine pt_d (pt_1 (fun n d => r_iloadn gx60_33 rfl) ?_)
      refine pt_d (pt_iald (N' := 10) gx60_34 S tl_50 z3 (fun v12 p12 q12 h12 => ?_))
      have H := H p12 q12
      refine pt_d (pt_iast (N' := 10) gx60_35 S tl_49 h10 h12 (fun h_13 S13 p13 q13 e13 => ?_))
      have H := H p13 q13
      refine pt_d (pt_1 (fun n d => r_aloadn gx60_36 rfl) ?_)
      refine pt_d (pt_1 (fun n d => r_dup gx60_37 rfl) ?_)
      refine pt_d (pt_getI (B := 4) gx60_38 S13 (fun v14 h14 => ?_))
      have h14 : v14.toInt = vw h 48 4 := by rw [h14, e13, up_c (by decide)]
      refine pt_d (pt_iconst gx60_41 (fun v15 h15 => ?_))
      refine pt_d (pt_iadd gx60_42 h14 h15 (fun v16 h16 => ?_))
      refine pt_d (pt_putI (B := 4) gx60_43 S13 h16 (fun h_17 S17 e17 => ?_))
      refine pt_d (pt_iinc (c := 1) gx60_46 rfl z3 (fun v18 h18 => ?_))
      show Pt _ _ _ _ [some (.ref 48), some (.int x1), some (.int x2), some (.int v18)] [] _ _
      refine pt_d (pt_1 (fun n d => r_goto gx60_49) ?_)
      have H := H h_17 S17 (by rw [e17, e13])
      exact H v18 h18
theorem shl1 : ∀ m : Fin 11, bShl 1 (m.val : Int) = ((2 ^ m.val : Nat) : Int) := by decide +kernel
noncomputable def chF (V : vS) (m : Int) : Nat → Int
  | 0 => ((2 ^ m.toNat : Nat) : Int) - 1
  | s + 1 => @ite Int (endA V (s : Nat) m ∧ isL V (s : Nat) (chF V m s) m) (Classical.propDecidable _) (s : Nat) (chF V m s)
theorem chF_t {V : vS} {m : Int} {s : Nat} (h : endA V (s : Nat) m ∧ isL V (s : Nat) (chF V m s) m) : chF V m (s + 1) = (s : Nat) := if_pos h
theorem chF_f {V : vS} {m : Int} {s : Nat} (h : ¬ (endA V (s : Nat) m ∧ isL V (s : Nat) (chF V m s) m)) : chF V m (s + 1) = chF V m s := if_neg h
theorem p2_b {m : Int} (h : 0 ≤ m ∧ m ≤ 10) : 1 ≤ ((2 ^ m.toNat : Nat) : Int) ∧ ((2 ^ m.toNat : Nat) : Int) ≤ 1024 := by
  have a : ∀ k : Fin 11, 1 ≤ 2 ^ k.val ∧ 2 ^ k.val ≤ 1024 := by decide
  have := a ⟨m.toNat, by omega⟩
  have b : 1 ≤ 2 ^ m.toNat ∧ 2 ^ m.toNat ≤ 1024 := this
  generalize 2 ^ m.toNat = u at b ⊢
  omega
theorem chF_b {V : vS} {m : Int} (hm : 0 ≤ m ∧ m ≤ 10) : ∀ s : Nat, s ≤ 2 ^ m.toNat → 0 ≤ chF V m s ∧ chF V m s < ((2 ^ m.toNat : Nat) : Int)
  | 0, _ => by
    have := p2_b hm
    show 0 ≤ ((2 ^ m.toNat : Nat) : Int) - 1 ∧ ((2 ^ m.toNat : Nat) : Int) - 1 < ((2 ^ m.toNat : Nat) : Int)
    omega
  | s + 1, h => by
    have ih := chF_b (V := V) hm s (by omega)
    by_cases z : endA V (s : Nat) m ∧ isL V (s : Nat) (chF V m s) m
    · rw [chF_t z]
      generalize 2 ^ m.toNat = u at h
      omega
    · rw [chF_f z]
      exact ih
theorem l_56 {X : aX} {h : aH} {m : Int} (S : wS h) (hm : 0 ≤ m ∧ m ≤ 10) : ∀ (n : Nat) (x1 x2 x3 : Int32) (s : Nat), x1.toInt = m → x2.toInt = chF (vw h) m s → x3.toInt = (s : Int) → s ≤ 2 ^ m.toNat → Pt n X zM56 8 [some (.ref 48), some (.int x1), some (.int x2), some (.int x3)] [] h (qI (fun r h' => h' = h ∧ r = chF (vw h) m (2 ^ m.toNat))) := by
  intro n
  induction n with
  | zero => intros; exact pt_z
  | succ n ih =>
    intro x1 x2 x3 s h1 h2 h3 hs
    have e2 : bShl 1 m = ((2 ^ m.toNat : Nat) : Int) := by
      have := shl1 ⟨m.toNat, by omega⟩
      rw [show (((⟨m.toNat, by omega⟩ : Fin 11).val : Nat) : Int) = m by show ((m.toNat : Nat) : Int) = m; omega] at this
      exact this
    have pb := p2_b hm
    have cb := chF_b (V := vw h) hm s hs
    have skip : ¬ (endA (vw h) (s : Nat) m ∧ isL (vw h) (s : Nat) (chF (vw h) m s) m) → (s : Int) < ((2 ^ m.toNat : Nat) : Int) → ∀ w : Int32, w.toInt = w32 ((s : Int) + 1) → Pt n X zM56 8 [some (.ref 48), some (.int x1), some (.int x2), some (.int w)] [] h (qI (fun r h' => h' = h ∧ r = chF (vw h) m (2 ^ m.toNat))) := by
      intro z e w g
      replace g := w_1 g (by omega) (by omega)
      exact ih x1 x2 w (s + 1) h1 (by rw [chF_f z]; exact h2) (by omega) (by generalize 2 ^ m.toNat = u at e ⊢; omega)
    refine d56_8 S h1 h2 h3 ⟨fun e => ⟨rfl, ?_⟩, fun e => ⟨hm.2, fun z w g => skip (fun y => z y.1) (by rw [e2] at e; exact e) w g, fun z => ⟨⟨⟨by omega, cb.1⟩, hm.2⟩, fun z2 w g => skip (fun y => z2 y.2) (by rw [e2] at e; exact e) w g, fun z2 w g => ?_⟩⟩⟩
    · rw [e2] at e
      have : s = 2 ^ m.toNat := by
        generalize 2 ^ m.toNat = u at e hs ⊢
        omega
      rw [← this]
    · rw [e2] at e
      replace g := w_1 g (by omega) (by omega)
      exact ih x1 x3 w (s + 1) h1 (by rw [chF_t ⟨z, z2⟩]; exact h3) (by omega) (by generalize 2 ^ m.toNat = u at e ⊢; omega)
theorem c_56 {n : Nat} {X : aX} {h : aH} {x1 : Int32} {a1 : Int} (S : wS h) (z1 : x1.toInt = a1) (hm : 0 ≤ a1 ∧ a1 ≤ 10) : Pt n X zM56 0 [some (.ref 48), some (.int x1), none, none] [] h (qI (fun r h' => h' = h ∧ r = chF (vw h) a1 (2 ^ a1.toNat))) := by
  have e2 : bShl 1 a1 = ((2 ^ a1.toNat : Nat) : Int) := by
    have := shl1 ⟨a1.toNat, by omega⟩
    rw [show (((⟨a1.toNat, by omega⟩ : Fin 11).val : Nat) : Int) = a1 by show ((a1.toNat : Nat) : Int) = a1; omega] at this
    exact this
  have pb := p2_b hm
  refine pt_d (d56_0 S z1 (fun w2 w3 g2 g3 => l_56 S hm n x1 w2 w3 0 z1 ?_ g3 (Nat.zero_le _)))
  rw [g2, e2, w32_id (by omega) (by omega)]
  rfl
def sBt (s : Int) (i : Int) : Prop := bAnd (bShr s i) 1 = 1
def R60 (V : vS) (s m r : Int) (W : vS) : Prop := (r = arN V s m.toNat) ∧ ((∀ (c : Nat) j, c ≠ 48 → c ≠ 49 → W c j = V c j) ∧ ∀ j, j ≠ 4 → W 48 j = V 48 j) ∧ W 48 4 = nQ (sBt s) m.toNat ∧ ∀ i : Nat, (i : Int) < m → sBt s (i : Nat) → W 49 (nQ (sBt s) i) = V 50 (i : Nat)
theorem nQ_le {R : Int → Prop} {i : Nat} : ∀ k : Nat, i ≤ k → nQ R i ≤ nQ R k
  | 0, h => by rw [show i = 0 by omega]; exact Int.le_refl _
  | k + 1, h => by
    by_cases z : i = k + 1
    · rw [z]; exact Int.le_refl _
    · have ih := nQ_le (R := R) k (show i ≤ k by omega)
      by_cases r : R (k : Nat)
      · rw [nQ_t r]; omega
      · rw [nQ_f r]; omega
theorem nQ_lt {R : Int → Prop} {i k : Nat} (h : i < k) (r : R (i : Nat)) : nQ R i < nQ R k := by
  have := nQ_le (R := R) k (show i + 1 ≤ k from h)
  rw [nQ_t r] at this
  omega
theorem l_60 {X : aX} {V : vS} {s m : Int} (hm : 0 ≤ m ∧ m ≤ 10) : ∀ (n : Nat) (h : aH) (x1 x2 x3 : Int32) (k : Nat), wS h → x1.toInt = s → x2.toInt = m → x3.toInt = (k : Int) → (k : Int) ≤ m → (((∀ (c : Nat) j, c ≠ 48 → c ≠ 49 → vw h c j = V c j) ∧ ∀ j, j ≠ 4 → vw h 48 j = V 48 j) ∧ vw h 48 4 = nQ (sBt s) k ∧ ∀ i : Nat, i < k → sBt s (i : Nat) → vw h 49 (nQ (sBt s) i) = V 50 (i : Nat)) → Pt n X zM60 7 [some (.ref 48), some (.int x1), some (.int x2), some (.int x3)] [] h (qI (fun r h' => wS h' ∧ R60 V s m r (vw h'))) := by
  intro n
  induction n with
  | zero => intros; exact pt_z
  | succ n ih =>
    intro h x1 x2 x3 k S h1 h2 h3 hk F
    have F0 := F
    obtain ⟨⟨f1, f2⟩, f4, f5⟩ := F0
    have b := nQ_b (sBt s) k
    have ar : ∀ i, arN (vw h) s i = arN V s i := fun i => by
      induction i with
      | zero => rfl
      | succ i ih2 =>
        have e : ∀ V : vS, arN V s (i + 1) = w32 (arN V s i + w32 (bAnd (bShr s (i : Nat)) 1 * V 3 (V 50 (i : Nat)))) := fun _ => rfl
        rw [e, e, ih2, f1 50 _ (by decide) (by decide), f1 3 _ (by decide) (by decide)]
    refine d60_7 S h1 h2 h3 ⟨fun e => ⟨hm.2, S, ?_, ⟨f1, f2⟩, ?_, fun i hi r => f5 i (by omega) r⟩, fun e => ⟨fun z w g => ?_, fun z _ _ _ _ g S2 eg w g3 => ?_⟩⟩
    · rw [ar]
    · rw [f4, show m.toNat = k by omega]
    · replace g := w_1 g (by omega) (by omega)
      refine ih h x1 x2 w (k + 1) S h1 h2 (by omega) (by omega) ⟨⟨f1, f2⟩, ?_, fun i hi r => ?_⟩
      · rw [nQ_f (show ¬ sBt s (k : Nat) from z), Int.add_zero]
        exact f4
      · by_cases y : i = k
        · rw [y] at r
          exact absurd r z
        · exact f5 i (by omega) r
    · replace g3 := w_1 g3 (by omega) (by omega)
      refine ih g x1 x2 w (k + 1) S2 h1 h2 (by omega) (by omega) ⟨⟨fun c j a d => ?_, fun j a => ?_⟩, ?_, fun i hi r => ?_⟩
      · rw [eg, up_c a, up_c d]
        exact f1 c j a d
      · rw [eg, up_j a, up_c (by decide)]
        exact f2 j a
      · rw [eg, up_s, f4, nQ_t (show sBt s (k : Nat) from z), w32_id (by omega) (by omega)]
      · rw [eg, up_c (by decide), up_p, f4]
        by_cases y : i = k
        · rw [y, if_pos rfl]
          exact f1 50 _ (by decide) (by decide)
        · have lt := nQ_lt (R := sBt s) (show i < k by omega) r
          rw [if_neg (by omega)]
          exact f5 i (by omega) r
theorem c_60 {n : Nat} {X : aX} {h : aH} {x1 x2 : Int32} {a1 a2 : Int} (S : wS h) (z1 : x1.toInt = a1) (z2 : x2.toInt = a2) (hm : 0 ≤ a2 ∧ a2 ≤ 10) : Pt n X zM60 0 [some (.ref 48), some (.int x1), some (.int x2), none] [] h (qI (fun r h' => wS h' ∧ R60 (vw h) a1 a2 r (vw h'))) := by
  refine pt_d (d60_0 S z1 z2 (fun g S2 eg w g3 => l_60 (V := vw h) hm n g x1 x2 w 0 S2 z1 z2 g3 hm.1 ⟨⟨fun c j a _ => by rw [eg, up_c a], fun j a => by rw [eg, up_j a]⟩, by rw [eg, up_s]; rfl, fun i hi => absurd hi (Nat.not_lt_zero _)⟩))
end
section
-- ===== the least land =====
theorem d53_0 {n : Nat} {X : aX} {h : aH} {P : Int → aH → Prop} {q1 : Nat} (S : wS h) (H : (∀ (w2 : Int32) (w3 : Int32), w2.toInt = 0 → w3.toInt = 0 → Pt n X zM53 4 [some (.ref 48), some (.ref q1), some (.int w2), some (.int w3)] [] h (qI P))) : Pt (n + 1) X zM53 0 [some (.ref 48), some (.ref q1), none, none] [] h (qI P) := by
  refine pt_iconst gx53_0 (fun v1 h1 => ?_)
  refine pt_d (pt_1 (fun n d => r_istoren (L' := [some (.ref 48), some (.ref q1), some (.int v1), none]) gx53_1 rfl rfl) ?_)
  refine pt_d (pt_iconst gx53_2 (fun v2 h2 => ?_))
  refine pt_d (pt_1 (fun n d => r_istoren (L' := [some (.ref 48), some (.ref q1), some (.int v1), some (.int v2)]) gx53_3 rfl rfl) ?_)
  exact H v1 v2 h1 h2
theorem d53_4 {n : Nat} {X : aX} {h : aH} {P : Int → aH → Prop} {x2 x3 : Int32} {a2 a3 : Int} {q1 : Nat} (S : wS h) (z2 : x2.toInt = a2) (z3 : x3.toInt = a3) (H : ((vw h 1 1 ≤ a3 → (∀ (w3 : Int32), w3.toInt = 0 → Pt n X zM53 76 [some (.ref 48), some (.ref q1), some (.int x2), some (.int w3)] [] h (qI P))) ∧ (a3 < vw h 1 1 → ((¬ (cField (vw h) a3) → (∀ (w3 : Int32), w3.toInt = w32 (a3 + 1) → Pt n X zM53 4 [some (.ref 48), some (.ref q1), some (.int x2), some (.int w3)] [] h (qI P))) ∧ ((cField (vw h) a3) → (((vw h q1 1 = ((16 : Nat) : Int) ∧ vw h q1 6 = ((q1 + 1 : Nat) : Int)) ∧ vw h q1 5 ≤ 300) ∧ ((¬ (clm (vw h) q1 a3) → (∀ (w3 : Int32), w3.toInt = w32 (a3 + 1) → Pt n X zM53 4 [some (.ref 48), some (.ref q1), some (.int x2), some (.int w3)] [] h (qI P))) ∧ ((clm (vw h) q1 a3) → ((vw h) q1 9 = (((q1 + 4) : Nat) : Int) ∧ (((0 ≤ a3 ∧ a3 < 150) ∧ ∀ j, 0 ≤ vw h 8 j ∧ vw h 8 j < 2147483648) ∧ ((sqA (vw h) a3 (q1 + 4) 24 ≤ 0 → (∀ (w3 : Int32), w3.toInt = w32 (a3 + 1) → Pt n X zM53 4 [some (.ref 48), some (.ref q1), some (.int x2), some (.int w3)] [] h (qI P))) ∧ (0 < sqA (vw h) a3 (q1 + 4) 24 → ((a2 < 10 → (0 ≤ a2 → a2 < 10 → ∀ h_20 : aH, wS h_20 → vw h_20 = up (vw h) 50 a2 a3 → (∀ (w2 : Int32) (w3 : Int32), w2.toInt = w32 (a2 + 1) → w3.toInt = w32 (a3 + 1) → Pt n X zM53 4 [some (.ref 48), some (.ref q1), some (.int w2), some (.int w3)] [] h_20 (qI P)))) ∧ (10 ≤ a2 → P (-4) h)))))))))))))) : Pt (n + 1) X zM53 4 [some (.ref 48), some (.ref q1), some (.int x2), some (.int x3)] [] h (qI P) := by
  refine pt_1 (fun n d => r_iloadn gx53_4 rfl) ?_
  refine pt_d (pt_1 (fun n d => r_aloadn gx53_5 rfl) ?_)
  refine pt_d (pt_getR gx53_6 S tr_48_0 ?_)
  refine pt_d (pt_getI (B := 1) gx53_9 S (fun v2 h2 => ?_))
  refine pt_d (pt_icmp_ge gx53_12 z3 h2 (fun e3 => ?_) (fun e3 => ?_))
  · have H := H.1 e3
    refine pt_d (pt_iconst gx53_74 (fun v4 h4 => ?_))
    refine pt_d (pt_1 (fun n d => r_istoren (L' := [some (.ref 48), some (.ref q1), some (.int x2), some (.int v4)]) gx53_75 rfl rfl) ?_)
    exact H v4 h4
  · have H := H.2 e3
    refine pt_d (pt_1 (fun n d => r_aloadn gx53_15 rfl) ?_)
    refine pt_d (pt_getR gx53_16 S tr_48_0 ?_)
    refine pt_d (pt_1 (fun n d => r_iloadn gx53_19 rfl) ?_)
    refine pt_d (pt_virt (as := [.int x3]) (r := []) gx53_20 rfl (show zmt[77]? = some zM77 from rfl) rfl rfl rfl rfl (c_77 S z3) (kqP (fun v6 h6 => ?_)))
    show Pt _ _ _ 23 _ [.int v6] _ _
    refine pt_d (pt_ifB_eq gx53_23 h6 (fun e7 => ?_) (fun e7 => ?_))
    · have H := H.1 e7
      refine pt_d (pt_iinc (c := 1) gx53_68 rfl z3 (fun v8 h8 => ?_))
      show Pt _ _ _ _ [some (.ref 48), some (.ref q1), some (.int x2), some (.int v8)] [] _ _
      refine pt_d (pt_1 (fun n d => r_goto gx53_71) ?_)
      exact H v8 h8
    · have H := H.2 e7
      refine pt_d (pt_1 (fun n d => r_aloadn gx53_26 rfl) ?_)
      refine pt_d (pt_1 (fun n d => r_iloadn gx53_27 rfl) ?_)
      obtain ⟨pr9, H⟩ := H
      refine pt_d (pt_virt (as := [.int x3]) (r := []) gx53_28 rfl (show zmt[99]? = some zM99 from rfl) rfl rfl rfl rfl (c_99 S z3 pr9) (kqP (fun v9 h9 => ?_)))
      show Pt _ _ _ 31 _ [.int v9] _ _
      refine pt_d (pt_ifB_eq gx53_31 h9 (fun e10 => ?_) (fun e10 => ?_))
      · have H := H.1 e10
        refine pt_d (pt_iinc (c := 1) gx53_68 rfl z3 (fun v11 h11 => ?_))
        show Pt _ _ _ _ [some (.ref 48), some (.ref q1), some (.int x2), some (.int v11)] [] _ _
        refine pt_d (pt_1 (fun n d => r_goto gx53_71) ?_)
        exact H v11 h11
      · have H := H.2 e10
        refine pt_d (pt_1 (fun n d => r_aloadn gx53_34 rfl) ?_)
        refine pt_d (pt_getR gx53_35 S tr_48_0 ?_)
        refine pt_d (pt_1 (fun n d => r_iloadn gx53_38 rfl) ?_)
        refine pt_d (pt_1 (fun n d => r_aloadn gx53_39 rfl) ?_)
        obtain ⟨pr13, H⟩ := H
        refine pt_d (pt_getK (B := 9) gx53_40 S (pr13) ?_)
        obtain ⟨pr14, H⟩ := H
        refine pt_d (pt_virt (as := [.int x3, .ref (q1 + 4)]) (r := []) gx53_43 rfl (show zmt[83]? = some zM83 from rfl) rfl rfl rfl rfl (c_83 S z3 pr14) (kqP (fun v14 h14 => ?_)))
        show Pt _ _ _ 46 _ [.int v14] _ _
        refine pt_d (pt_if_le gx53_46 h14 (fun e15 => ?_) (fun e15 => ?_))
        · have H := H.1 e15
          refine pt_d (pt_iinc (c := 1) gx53_68 rfl z3 (fun v16 h16 => ?_))
          show Pt _ _ _ _ [some (.ref 48), some (.ref q1), some (.int x2), some (.int v16)] [] _ _
          refine pt_d (pt_1 (fun n d => r_goto gx53_71) ?_)
          exact H v16 h16
        · have H := H.2 e15
          refine pt_d (pt_1 (fun n d => r_iloadn gx53_49 rfl) ?_)
          refine pt_d (pt_bipush gx53_50 (fun v17 h17 => ?_))
          refine pt_d (pt_icmp_lt gx53_52 z2 h17 (fun e18 => ?_) (fun e18 => ?_))
          · have H := H.1 e18
            refine pt_d (pt_1 (fun n d => r_aloadn gx53_58 rfl) ?_)
            refine pt_d (pt_getR gx53_59 S tr_48_5 ?_)
            refine pt_d (pt_1 (fun n d => r_iloadn gx53_62 rfl) ?_)
            refine pt_d (pt_1 (fun n d => r_iloadn gx53_63 rfl) ?_)
            refine pt_d (pt_iast (N' := 10) gx53_64 S tl_50 z2 z3 (fun h_20 S20 p20 q20 e20 => ?_))
            have H := H p20 q20
            refine pt_d (pt_iinc (c := 1) gx53_65 rfl z2 (fun v21 h21 => ?_))
            show Pt _ _ _ _ [some (.ref 48), some (.ref q1), some (.int v21), some (.int x3)] [] _ _
            refine pt_d (pt_iinc (c := 1) gx53_68 rfl z3 (fun v22 h22 => ?_))
            show Pt _ _ _ _ [some (.ref 48), some (.ref q1), some (.int v21), some (.int v22)] [] _ _
            refine pt_d (pt_1 (fun n d => r_goto gx53_71) ?_)
            have H := H h_20 S20 (by rw [e20])
            exact H v21 v22 h21 h22
          · have H := H.2 e18
            refine pt_d (pt_bipush gx53_55 (fun v23 h23 => ?_))
            exact pt_d (pt_iret gx53_57 ⟨_, rfl, by rw [h23]; exact H⟩)
theorem d53_76 {n : Nat} {X : aX} {h : aH} {P : Int → aH → Prop} {x2 x3 : Int32} {a2 a3 : Int} {q1 : Nat} (S : wS h) (z2 : x2.toInt = a2) (z3 : x3.toInt = a3) (H : ((a2 ≤ a3 → ((0 ≤ a2 ∧ a2 ≤ 10) ∧ ((0 ≤ a2 ∧ a2 ≤ 10) ∧ ∀ (y3 : Int) (h_3 : aH), (wS h_3 ∧ R60 (vw h) (chF (vw h) a2 (2 ^ (a2).toNat)) a2 y3 (vw h_3)) → P y3 h_3))) ∧ (a3 < a2 → ((((vw h q1 1 = ((16 : Nat) : Int) ∧ vw h q1 6 = ((q1 + 1 : Nat) : Int)) ∧ vw h q1 5 ≤ 300) ∧ a2 ≤ 10 ∧ (0 ≤ a3 ∧ a3 < a2) ∧ ∀ j, 0 ≤ j → j < a2 → 0 ≤ vw h 50 j ∧ vw h 50 j < 150) ∧ (0 ≤ a3 → a3 < 10 → ∀ h_6 : aH, wS h_6 → vw h_6 = up (vw h) 51 a3 (nbS (fun j => cMt (vw h) ((vw h) 50 a3) ((vw h) 50 j) ∧ two (vw h) q1 ((vw h) 50 a3) ((vw h) 50 j)) (a2).toNat) → (∀ (w3 : Int32), w3.toInt = w32 (a3 + 1) → Pt n X zM53 76 [some (.ref 48), some (.ref q1), some (.int x2), some (.int w3)] [] h_6 (qI P))))))) : Pt (n + 1) X zM53 76 [some (.ref 48), some (.ref q1), some (.int x2), some (.int x3)] [] h (qI P) := by
  refine pt_1 (fun n d => r_iloadn gx53_76 rfl) ?_
  refine pt_d (pt_1 (fun n d => r_iloadn gx53_77 rfl) ?_)
  refine pt_d (pt_icmp_ge gx53_78 z3 z2 (fun e1 => ?_) (fun e1 => ?_))
  · have H := H.1 e1
    refine pt_d (pt_1 (fun n d => r_aloadn gx53_100 rfl) ?_)
    refine pt_d (pt_1 (fun n d => r_aloadn gx53_101 rfl) ?_)
    refine pt_d (pt_1 (fun n d => r_iloadn gx53_102 rfl) ?_)
    obtain ⟨pr2, H⟩ := H
    refine pt_d (pt_virt (as := [.int x2]) (r := [.ref 48]) gx53_103 rfl (show zmt[56]? = some zM56 from rfl) rfl rfl rfl rfl (c_56 S z2 pr2) (kqP (fun v2 h2 => ?_)))
    show Pt _ _ _ 106 _ [.int v2, .ref 48] _ _
    refine pt_d (pt_1 (fun n d => r_iloadn gx53_106 rfl) ?_)
    obtain ⟨pr3, H⟩ := H
    refine pt_d (pt_virt (as := [.int v2, .int x2]) (r := []) gx53_107 rfl (show zmt[60]? = some zM60 from rfl) rfl rfl rfl rfl (c_60 S h2 z2 pr3) (kqI (fun v3 y3 h_3 h3 P3 => ?_)))
    have S3 := P3.1
    have H := H y3 h_3 P3
    show Pt _ _ _ 110 _ [.int v3] _ _
    exact pt_d (pt_iret gx53_110 ⟨_, rfl, by rw [h3]; exact H⟩)
  · have H := H.2 e1
    refine pt_d (pt_1 (fun n d => r_aloadn gx53_81 rfl) ?_)
    refine pt_d (pt_getR gx53_82 S tr_48_6 ?_)
    refine pt_d (pt_1 (fun n d => r_iloadn gx53_85 rfl) ?_)
    refine pt_d (pt_1 (fun n d => r_aloadn gx53_86 rfl) ?_)
    refine pt_d (pt_1 (fun n d => r_iloadn gx53_87 rfl) ?_)
    refine pt_d (pt_1 (fun n d => r_iloadn gx53_88 rfl) ?_)
    refine pt_d (pt_1 (fun n d => r_aloadn gx53_89 rfl) ?_)
    obtain ⟨pr5, H⟩ := H
    refine pt_d (pt_virt (as := [.int x3, .int x2, .ref q1]) (r := [.int x3, .ref 51]) gx53_90 rfl (show zmt[54]? = some zM54 from rfl) rfl rfl rfl rfl (c_54 S z3 z2 pr5) (kqP (fun v5 h5 => ?_)))
    show Pt _ _ _ 93 _ [.int v5, .int x3, .ref 51] _ _
    refine pt_d (pt_iast (N' := 10) gx53_93 S tl_51 z3 h5 (fun h_6 S6 p6 q6 e6 => ?_))
    have H := H p6 q6
    refine pt_d (pt_iinc (c := 1) gx53_94 rfl z3 (fun v7 h7 => ?_))
    show Pt _ _ _ _ [some (.ref 48), some (.ref q1), some (.int x2), some (.int v7)] [] _ _
    refine pt_d (pt_1 (fun n d => r_goto gx53_97) ?_)
    have H := H h_6 S6 (by rw [e6])
    exact H v7 h7
theorem nQ_inv {R : Int → Prop} {j : Int} (j0 : 0 ≤ j) : ∀ n : Nat, j < nQ R n → ∃ b : Nat, b < n ∧ R (b : Nat) ∧ nQ R b = j
  | 0, h => by
    have e : nQ R 0 = 0 := rfl
    rw [e] at h
    omega
  | n + 1, h => by
    by_cases r : R (n : Nat)
    · rw [nQ_t r] at h
      by_cases z : j < nQ R n
      · obtain ⟨b, b1, b2, b3⟩ := nQ_inv j0 n z
        exact ⟨b, by omega, b2, b3⟩
      · exact ⟨n, by omega, r, by omega⟩
    · rw [nQ_f r, Int.add_zero] at h
      obtain ⟨b, b1, b2, b3⟩ := nQ_inv j0 n h
      exact ⟨b, by omega, b2, b3⟩
theorem nbS_c {R R' : Int → Prop} (e : ∀ j, R j ↔ R' j) (n : Nat) : nbS R n = nbS R' n := by
  have : R = R' := funext (fun j => propext (e j))
  rw [this]
theorem sqA_w {V W : vS} {b : Int} {r : Nat} (e8 : ∀ j, W 8 j = V 8 j) (er : ∀ j, W r j = V r j) : ∀ y : Nat, sqA W b r y = sqA V b r y
  | 0 => rfl
  | y + 1 => by
    have e : ∀ V : vS, sqA V b r (y + 1) = sqA V b r y + bcn (tb (bAnd (V 8 (24 * b + (y : Nat))) (V r (y : Nat)))) 32 := fun _ => rfl
    rw [e, e, sqA_w e8 er y, e8, er]
def TR (V : vS) (q : Nat) (b : Int) : Prop := cField V b ∧ clm V q b ∧ 0 < sqA V b (q + 4) 24
theorem TR_w {V W : vS} {q : Nat} (hq : 146 ≤ q) (e : ∀ (c : Nat) j, c ≠ 50 → c ≠ 51 → W c j = V c j) (b : Int) : (cField W b ↔ cField V b) ∧ (clm W q b ↔ clm V q b) ∧ sqA W b (q + 4) 24 = sqA V b (q + 4) 24 := by
  refine ⟨?_, ?_, sqA_w (fun j => e 8 j (by decide) (by decide)) (fun j => e (q + 4) j (by omega) (by omega)) 24⟩
  · unfold cField cBody
    rw [e 1 1 (by decide) (by decide), e 2 b (by decide) (by decide)]
  · unfold clm
    simp only [e q _ (show q ≠ 50 by omega) (show q ≠ 51 by omega), e (q + 1) _ (show q + 1 ≠ 50 by omega) (show q + 1 ≠ 51 by omega), e 18 _ (show 18 ≠ 50 by decide) (show 18 ≠ 51 by decide)]
theorem cMt_w {V W : vS} (e8 : ∀ j, W 8 j = V 8 j) (a b : Int) : cMt W a b ↔ cMt V a b := by
  unfold cMt
  simp only [e8]
theorem two_w {V W : vS} {q : Nat} (hq : 146 ≤ q) (e : ∀ (c : Nat) j, c ≠ 50 → c ≠ 51 → W c j = V c j) (a b : Int) : two W q a b ↔ two V q a b := by
  unfold two
  simp only [e q _ (show q ≠ 50 by omega) (show q ≠ 51 by omega), e (q + 1) _ (show q + 1 ≠ 50 by omega) (show q + 1 ≠ 51 by omega), e 18 _ (show 18 ≠ 50 by decide) (show 18 ≠ 51 by decide), e 17 _ (show 17 ≠ 50 by decide) (show 17 ≠ 51 by decide)]
def R53 (V : vS) (q : Nat) (r : Int) (W : vS) : Prop := (10 < nQ (TR V q) (V 1 1).toNat ∧ r = -4 ∧ ∀ (c : Nat) j, c ≠ 50 → W c j = V c j) ∨ (nQ (TR V q) (V 1 1).toNat ≤ 10 ∧ ∃ U : vS, (∀ (c : Nat) j, c ≠ 50 → c ≠ 51 → U c j = V c j) ∧ (∀ b : Nat, (b : Int) < V 1 1 → TR V q (b : Nat) → U 50 (nQ (TR V q) b) = (b : Nat)) ∧ (∀ i, 0 ≤ i → i < nQ (TR V q) (V 1 1).toNat → U 51 i = nbS (fun j => cMt V (U 50 i) (U 50 j) ∧ two V q (U 50 i) (U 50 j)) (nQ (TR V q) (V 1 1).toNat).toNat) ∧ R60 U (chF U (nQ (TR V q) (V 1 1).toNat) (2 ^ (nQ (TR V q) (V 1 1).toNat).toNat)) (nQ (TR V q) (V 1 1).toNat) r W)
theorem l_53b {X : aX} {V U0 : vS} {q : Nat} {m : Int} (hq : 146 ≤ q) (L : (V q 1 = ((16 : Nat) : Int) ∧ V q 6 = ((q + 1 : Nat) : Int)) ∧ V q 5 ≤ 300) (hm : 0 ≤ m ∧ m ≤ 10) (e0 : ∀ (c : Nat) j, c ≠ 50 → c ≠ 51 → U0 c j = V c j) (ht : ∀ j, 0 ≤ j → j < m → 0 ≤ U0 50 j ∧ U0 50 j < 150) : ∀ (n : Nat) (h : aH) (x2 x3 : Int32) (k : Nat), wS h → x2.toInt = m → x3.toInt = (k : Int) → (k : Int) ≤ m → (∀ (c : Nat) j, c ≠ 51 → vw h c j = U0 c j) → (∀ i, 0 ≤ i → i < (k : Int) → vw h 51 i = nbS (fun j => cMt V (U0 50 i) (U0 50 j) ∧ two V q (U0 50 i) (U0 50 j)) m.toNat) → Pt n X zM53 76 [some (.ref 48), some (.ref q), some (.int x2), some (.int x3)] [] h (qI (fun r h' => wS h' ∧ ∃ U : vS, (∀ (c : Nat) j, c ≠ 51 → U c j = U0 c j) ∧ (∀ i, 0 ≤ i → i < m → U 51 i = nbS (fun j => cMt V (U0 50 i) (U0 50 j) ∧ two V q (U0 50 i) (U0 50 j)) m.toNat) ∧ R60 U (chF U m (2 ^ m.toNat)) m r (vw h'))) := by
  intro n
  induction n with
  | zero => intros; exact pt_z
  | succ n ih =>
    intro h x2 x3 k S h2 h3 hk F G
    have Fv : ∀ (c : Nat) j, c ≠ 50 → c ≠ 51 → vw h c j = V c j := fun c j a b => (F c j b).trans (e0 c j a b)
    refine d53_76 S h2 h3 ⟨fun e => ⟨hm, hm, fun r g R => ⟨R.1, vw h, F, fun i a b => G i a (by omega), R.2⟩⟩, fun e => ⟨⟨⟨⟨by rw [Fv q 1 (by omega) (by omega)]; exact L.1.1, by rw [Fv q 6 (by omega) (by omega)]; exact L.1.2⟩, by rw [Fv q 5 (by omega) (by omega)]; exact L.2⟩, hm.2, ⟨by omega, e⟩, fun j a b => by rw [F 50 j (by decide)]; exact ht j a b⟩, fun _ _ g S2 eg w g3 => ?_⟩⟩
    replace g3 := w_1 g3 (by omega) (by omega)
    refine ih g x2 w (k + 1) S2 h2 (by omega) (by omega) (fun c j a => by rw [eg, up_c a]; exact F c j a) (fun i a b => ?_)
    rw [eg, up_p]
    by_cases z : i = (k : Int)
    · rw [if_pos z, z]
      refine nbS_c (fun j => ?_) _
      rw [F 50 _ (by decide), F 50 j (by decide), cMt_w (V := V) (fun j => Fv 8 j (by decide) (by decide)), two_w hq Fv]
    · rw [if_neg z]
      exact G i a (by omega)
theorem l_53 {X : aX} {V : vS} {q : Nat} (hq : 146 ≤ q) (L : slk V q) (hN : V q 5 ≤ 300) (hn : 0 ≤ V 1 1 ∧ V 1 1 ≤ 150) (h8 : ∀ j, 0 ≤ V 8 j ∧ V 8 j < 2147483648) : ∀ (n : Nat) (h : aH) (x2 x3 : Int32) (k : Nat), wS h → x2.toInt = nQ (TR V q) k → x3.toInt = (k : Int) → (k : Int) ≤ V 1 1 → nQ (TR V q) k ≤ 10 → (∀ (c : Nat) j, c ≠ 50 → vw h c j = V c j) → (∀ b : Nat, b < k → TR V q (b : Nat) → vw h 50 (nQ (TR V q) b) = (b : Nat)) → Pt n X zM53 4 [some (.ref 48), some (.ref q), some (.int x2), some (.int x3)] [] h (qI (fun r h' => wS h' ∧ R53 V q r (vw h'))) := by
  intro n
  induction n with
  | zero => intros; exact pt_z
  | succ n ih =>
    intro h x2 x3 k S h2 h3 hk h10 F G
    obtain ⟨L0, L1, L6, L7, L8, L9, -⟩ := L
    have Fv : ∀ (c : Nat) j, c ≠ 50 → c ≠ 51 → vw h c j = V c j := fun c j a _ => F c j a
    obtain ⟨tc, tl, ts⟩ := TR_w hq Fv (k : Nat)
    have n1 := F 1 1 (by decide)
    have b := nQ_b (TR V q) k
    have skip : (k : Int) < vw h 1 1 → ¬ TR V q (k : Nat) → ∀ w : Int32, w.toInt = w32 ((k : Int) + 1) → Pt n X zM53 4 [some (.ref 48), some (.ref q), some (.int x2), some (.int w)] [] h (qI (fun r h' => wS h' ∧ R53 V q r (vw h'))) := by
      intro e z w g
      replace g := w_1 g (by omega) (by omega)
      refine ih h x2 w (k + 1) S ?_ (by omega) (by omega) ?_ F (fun b' hb r => ?_)
      · rw [nQ_f z, Int.add_zero]; exact h2
      · rw [nQ_f z, Int.add_zero]; exact h10
      · by_cases y : b' = k
        · rw [y] at r
          exact absurd r z
        · exact G b' (by omega) r
    refine d53_4 S h2 h3 ⟨fun e w g => ?_, fun e => ⟨fun z w g => skip e (fun y => z (tc.mpr y.1)) w g, fun z => ⟨⟨⟨by rw [F q 1 (by omega)]; exact L1, by rw [F q 6 (by omega)]; exact L6⟩, by rw [F q 5 (by omega)]; exact hN⟩, fun z2 w g => skip e (fun y => z2 (tl.mpr y.2.1)) w g, fun z2 => ⟨by rw [F q 9 (by omega)]; exact L9, ⟨⟨by omega, by omega⟩, fun j => by rw [F 8 j (by decide)]; exact h8 j⟩, fun z3 w g => skip e (fun y => by have := y.2.2; omega) w g, fun z3 => ⟨fun lt _ _ g S2 eg w2 w3 g2 g3 => ?_, fun ge => ⟨S, ?_⟩⟩⟩⟩⟩⟩
    · have kn : (V 1 1).toNat = k := by omega
      refine pt_q (l_53b (V := V) (U0 := vw h) (m := nQ (TR V q) k) hq ⟨⟨L1, L6⟩, hN⟩ ⟨b.1, h10⟩ Fv (fun j a c => ?_) n h x2 w 0 S h2 g b.1 (fun _ _ _ => rfl) (fun i a c => by omega)) ?_
      · obtain ⟨b', b1, b2, b3⟩ := nQ_inv a k c
        have := G b' b1 b2
        rw [b3] at this
        omega
      · rintro v h' ⟨x, ev, S', U, u1, u2, u3⟩
        refine ⟨x, ev, S', Or.inr ⟨by rw [kn]; exact h10, U, fun c j a d => (u1 c j d).trans (F c j a), fun b' hb r => ?_, ?_, ?_⟩⟩
        · rw [u1 50 _ (by decide)]
          exact G b' (by omega) r
        · rw [kn]
          intro i a c
          rw [u2 i a c]
          refine nbS_c (fun j => ?_) _
          rw [u1 50 i (by decide), u1 50 j (by decide)]
        · rw [kn]
          exact u3
    · have t : TR V q (k : Nat) := ⟨tc.mp z, tl.mp z2, by rw [← ts]; exact z3⟩
      replace g2 := w_1 g2 (by omega) (by omega)
      replace g3 := w_1 g3 (by omega) (by omega)
      refine ih g w2 w3 (k + 1) S2 ?_ (by omega) (by omega) ?_ (fun c j a => by rw [eg, up_c a]; exact F c j a) (fun b' hb r => ?_)
      · rw [nQ_t t]; exact g2
      · rw [nQ_t t]; omega
      · rw [eg, up_p]
        by_cases y : b' = k
        · rw [y, if_pos rfl]
        · have lt2 := nQ_lt (R := TR V q) (show b' < k by omega) r
          rw [if_neg (by omega)]
          exact G b' (by omega) r
    · have t : TR V q (k : Nat) := ⟨tc.mp z, tl.mp z2, by rw [← ts]; exact z3⟩
      have le := nQ_le (R := TR V q) (V 1 1).toNat (show k + 1 ≤ (V 1 1).toNat by omega)
      rw [nQ_t t] at le
      exact Or.inl ⟨by omega, rfl, F⟩
theorem c_53 {n : Nat} {X : aX} {h : aH} {q1 : Nat} (S : wS h) (hp : (146 ≤ q1 ∧ slk (vw h) q1 ∧ vw h q1 5 ≤ 300) ∧ (0 ≤ vw h 1 1 ∧ vw h 1 1 ≤ 150) ∧ ∀ j, 0 ≤ vw h 8 j ∧ vw h 8 j < 2147483648) : Pt n X zM53 0 [some (.ref 48), some (.ref q1), none, none] [] h (qI (fun r h' => wS h' ∧ R53 (vw h) q1 r (vw h'))) :=
  pt_d (d53_0 S (fun w2 w3 g2 g3 => l_53 hp.1.1 hp.1.2.1 hp.1.2.2 hp.2.1 hp.2.2 n h w2 w3 0 S g2 g3 hp.2.1.1 (show (0 : Int) ≤ 10 by decide) (fun _ _ _ => rfl) (fun b hb => absurd hb (Nat.not_lt_zero _))))

theorem d175_0 {n : Nat} {X : aX} {h : aH} {P : Int → aH → Prop} {x1 : Int32} {a1 : Int} (S : wS h) (z1 : x1.toInt = a1) (H : ((¬ (0 ≤ a1 ∧ a1 ≤ 9) → P (-1) h) ∧ ((0 ≤ a1 ∧ a1 ≤ 9) → ((p1 h a1) ∧ ∀ (q8 : Nat) (h_8 : aH), (wS h_8 ∧ R1 h a1 (vw h 1 0) q8 h_8) → (((146 ≤ q8 ∧ slk (vw h_8) q8 ∧ vw h_8 q8 5 ≤ 300) ∧ (0 ≤ vw h_8 1 1 ∧ vw h_8 1 1 ≤ 150) ∧ ∀ j, 0 ≤ vw h_8 8 j ∧ vw h_8 8 j < 2147483648) ∧ ∀ (y9 : Int) (h_9 : aH), (wS h_9 ∧ R53 (vw h_8) q8 y9 (vw h_9)) → P y9 h_9))))) : Pt (n + 1) X zM175 0 [some (.ref 0), some (.int x1)] [] h (qI P) := by
  refine pt_1 (fun n d => r_iloadn gx175_0 rfl) ?_
  refine pt_d (pt_stat (as := [.int x1]) (r := []) gx175_1 rfl (show zmt[139]? = some zM139 from rfl) rfl rfl rfl rfl (c_139 S z1) (kqP (fun v1 h1 => ?_)))
  show Pt _ _ _ 4 _ [.int v1] _ _
  refine pt_d (pt_ifB_eq gx175_4 h1 (fun e2 => ?_) (fun e2 => ?_))
  · have H := H.1 e2
    refine pt_d (pt_iconst gx175_32 (fun v3 h3 => ?_))
    exact pt_d (pt_iret gx175_33 ⟨_, rfl, by rw [h3]; exact H⟩)
  · have H := H.2 e2
    refine pt_d (pt_1 (fun n d => r_aloadn gx175_7 rfl) ?_)
    refine pt_d (pt_getR gx175_8 S tr_0_5 ?_)
    refine pt_d (pt_1 (fun n d => r_aloadn gx175_11 rfl) ?_)
    refine pt_d (pt_getR gx175_12 S tr_0_4 ?_)
    refine pt_d (pt_1 (fun n d => r_iloadn gx175_15 rfl) ?_)
    refine pt_d (pt_1 (fun n d => r_aloadn gx175_16 rfl) ?_)
    refine pt_d (pt_getR gx175_17 S tr_0_0 ?_)
    refine pt_d (pt_getI (B := 0) gx175_20 S (fun v7 h7 => ?_))
    obtain ⟨pr8, H⟩ := H
    refine pt_d (pt_virt (as := [.int x1, .int v7]) (r := [.ref 48]) gx175_23 rfl (show zmt[1]? = some zM1 from rfl) rfl rfl rfl rfl (c_1 S z1 h7 pr8) (kqR (fun q8 h_8 P8 => ?_)))
    have S8 := P8.1
    have H := H q8 h_8 P8
    show Pt _ _ _ 26 _ [.ref q8, .ref 48] _ _
    obtain ⟨pr9, H⟩ := H
    refine pt_d (pt_virt (as := [.ref q8]) (r := []) gx175_26 rfl (show zmt[53]? = some zM53 from rfl) rfl rfl rfl rfl (c_53 S8 pr9) (kqI (fun v9 y9 h_9 h9 P9 => ?_)))
    have S9 := P9.1
    have H := H y9 h_9 P9
    show Pt _ _ _ 29 _ [.int v9] _ _
    refine pt_d (pt_1 (fun n d => r_goto gx175_29) ?_)
    exact pt_d (pt_iret gx175_33 ⟨_, rfl, by rw [h9]; exact H⟩)
end

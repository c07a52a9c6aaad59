-- ===== the least land =====
theorem gx176_0 : aF 0 zM176.2.2.2.2.2.2.2 = some (0, (.iload_n 1), 1, 0, 0) := by decide +kernel
theorem gx176_1 : aF 1 zM176.2.2.2.2.2.2.2 = some (1, (.iconst 0), 1, 0, 0) := by decide +kernel
theorem gx176_2 : aF 2 zM176.2.2.2.2.2.2.2 = some (2, (.aload_n 0), 1, 0, 0) := by decide +kernel
theorem gx176_3 : aF 3 zM176.2.2.2.2.2.2.2 = some (3, (.getfield 53), 3, 11, 5) := by decide +kernel
theorem gx176_6 : aF 6 zM176.2.2.2.2.2.2.2 = some (6, (.getfield 297), 3, 5, 4) := by decide +kernel
theorem gx176_9 : aF 9 zM176.2.2.2.2.2.2.2 = some (9, (.iconst 1), 1, 0, 0) := by decide +kernel
theorem gx176_10 : aF 10 zM176.2.2.2.2.2.2.2 = some (10, .isub, 1, 0, 0) := by decide +kernel
theorem gx176_11 : aF 11 zM176.2.2.2.2.2.2.2 = some (11, (.invokestatic 85), 3, 137, 0) := by decide +kernel
theorem gx176_14 : aF 14 zM176.2.2.2.2.2.2.2 = some (14, (.ifCond .eq 15), 3, 29, 0) := by decide +kernel
theorem gx176_29 : aF 29 zM176.2.2.2.2.2.2.2 = some (29, (.iconst (-1)), 1, 0, 0) := by decide +kernel
theorem gx176_30 : aF 30 zM176.2.2.2.2.2.2.2 = some (30, .ireturn, 1, 0, 0) := by decide +kernel
theorem gx176_17 : aF 17 zM176.2.2.2.2.2.2.2 = some (17, (.aload_n 0), 1, 0, 0) := by decide +kernel
theorem gx176_18 : aF 18 zM176.2.2.2.2.2.2.2 = some (18, (.getfield 53), 3, 11, 5) := by decide +kernel
theorem gx176_21 : aF 21 zM176.2.2.2.2.2.2.2 = some (21, (.getfield 300), 3, 5, 3) := by decide +kernel
theorem gx176_24 : aF 24 zM176.2.2.2.2.2.2.2 = some (24, (.iload_n 1), 1, 0, 0) := by decide +kernel
theorem gx176_25 : aF 25 zM176.2.2.2.2.2.2.2 = some (25, .iaload, 1, 0, 0) := by decide +kernel
theorem gx176_26 : aF 26 zM176.2.2.2.2.2.2.2 = some (26, (.goto 4), 3, 30, 0) := by decide +kernel
theorem gx289_0 : aF 0 zM289.2.2.2.2.2.2.2 = some (0, (.iload_n 1), 1, 0, 0) := by decide +kernel
theorem gx289_1 : aF 1 zM289.2.2.2.2.2.2.2 = some (1, (.iconst 0), 1, 0, 0) := by decide +kernel
theorem gx289_2 : aF 2 zM289.2.2.2.2.2.2.2 = some (2, (.aload_n 0), 1, 0, 0) := by decide +kernel
theorem gx289_3 : aF 3 zM289.2.2.2.2.2.2.2 = some (3, (.getfield 204), 3, 12, 81) := by decide +kernel
theorem gx289_6 : aF 6 zM289.2.2.2.2.2.2.2 = some (6, (.iconst 1), 1, 0, 0) := by decide +kernel
theorem gx289_7 : aF 7 zM289.2.2.2.2.2.2.2 = some (7, .isub, 1, 0, 0) := by decide +kernel
theorem gx289_8 : aF 8 zM289.2.2.2.2.2.2.2 = some (8, (.invokestatic 258), 3, 196, 0) := by decide +kernel
theorem gx289_11 : aF 11 zM289.2.2.2.2.2.2.2 = some (11, (.ifCond .eq 12), 3, 23, 0) := by decide +kernel
theorem gx289_23 : aF 23 zM289.2.2.2.2.2.2.2 = some (23, (.iconst (-1)), 1, 0, 0) := by decide +kernel
theorem gx289_24 : aF 24 zM289.2.2.2.2.2.2.2 = some (24, .ireturn, 1, 0, 0) := by decide +kernel
theorem gx289_14 : aF 14 zM289.2.2.2.2.2.2.2 = some (14, (.aload_n 0), 1, 0, 0) := by decide +kernel
theorem gx289_15 : aF 15 zM289.2.2.2.2.2.2.2 = some (15, (.getfield 207), 3, 12, 82) := by decide +kernel
theorem gx289_18 : aF 18 zM289.2.2.2.2.2.2.2 = some (18, (.iload_n 1), 1, 0, 0) := by decide +kernel
theorem gx289_19 : aF 19 zM289.2.2.2.2.2.2.2 = some (19, .iaload, 1, 0, 0) := by decide +kernel
theorem gx289_20 : aF 20 zM289.2.2.2.2.2.2.2 = some (20, (.goto 4), 3, 24, 0) := by decide +kernel
theorem d99_0 {n : Nat} {X : aX} {h : aH} {P : Int → aH → Prop} {x1 : Int32} {a1 : Int} {q0 : Nat} (S : wS h) (z1 : x1.toInt = a1) (H : (∀ (w2 : Int32), w2.toInt = 0 → Pt n X zM99 2 [some (.ref q0), some (.int x1), some (.int w2)] [] h (qI P))) : Pt (n + 1) X zM99 0 [some (.ref q0), some (.int x1), none] [] h (qI P) := by
  refine pt_iconst gx99_0 (fun v1 h1 => ?_)
  refine pt_d (pt_1 (fun n d => r_istoren (L' := [some (.ref q0), some (.int x1), some (.int v1)]) gx99_1 rfl rfl) ?_)
  exact H v1 h1
theorem d99_2 {n : Nat} {X : aX} {h : aH} {P : Int → aH → Prop} {x1 x2 : Int32} {a1 a2 : Int} {q0 : Nat} (S : wS h) (z1 : x1.toInt = a1) (z2 : x2.toInt = a2) (H : ((vw h q0 5 ≤ a2 → P 0 h) ∧ (a2 < vw h q0 5 → ((vw h q0 1 = ((16 : Nat) : Int) ∧ vw h q0 6 = ((q0 + 1 : Nat) : Int)) ∧ (((vw h) 18 ((vw h) (q0 + 1) a2) ≠ a1 → (∀ (w2 : Int32), w2.toInt = w32 (a2 + 1) → Pt n X zM99 2 [some (.ref q0), some (.int x1), some (.int w2)] [] h (qI P))) ∧ ((vw h) 18 ((vw h) (q0 + 1) a2) = a1 → P 1 h)))))) : Pt (n + 1) X zM99 2 [some (.ref q0), some (.int x1), some (.int x2)] [] h (qI P) := by
  refine pt_1 (fun n d => r_iloadn gx99_2 rfl) ?_
  refine pt_d (pt_1 (fun n d => r_aloadn gx99_3 rfl) ?_)
  refine pt_d (pt_getI (B := 5) gx99_4 S (fun v1 h1 => ?_))
  refine pt_d (pt_icmp_ge gx99_7 z2 h1 (fun e2 => ?_) (fun e2 => ?_))
  · have H := H.1 e2
    refine pt_d (pt_iconst gx99_27 (fun v3 h3 => ?_))
    exact pt_d (pt_iret gx99_28 ⟨_, rfl, by rw [h3]; exact H⟩)
  · have H := H.2 e2
    refine pt_d (pt_1 (fun n d => r_aloadn gx99_10 rfl) ?_)
    refine pt_d (pt_1 (fun n d => r_iloadn gx99_11 rfl) ?_)
    obtain ⟨pr4, H⟩ := H
    refine pt_d (pt_virt (as := [.int x2]) (r := []) gx99_12 rfl (show zmt[101]? = some zM101 from rfl) rfl rfl rfl rfl (c_101 S z2 pr4) (kqP (fun v4 h4 => ?_)))
    show Pt _ _ _ 15 _ [.int v4] _ _
    refine pt_d (pt_1 (fun n d => r_iloadn gx99_15 rfl) ?_)
    refine pt_d (pt_icmp_ne gx99_16 h4 z1 (fun e5 => ?_) (fun e5 => ?_))
    · have H := H.1 e5
      refine pt_d (pt_iinc (c := 1) gx99_21 rfl z2 (fun v6 h6 => ?_))
      show Pt _ _ _ _ [some (.ref q0), some (.int x1), some (.int v6)] [] _ _
      refine pt_d (pt_1 (fun n d => r_goto gx99_24) ?_)
      exact H v6 h6
    · have H := H.2 e5
      refine pt_d (pt_iconst gx99_19 (fun v7 h7 => ?_))
      exact pt_d (pt_iret gx99_20 ⟨_, rfl, by rw [h7]; exact H⟩)
def clm (V : vS) (q : Nat) (b : Int) : Prop := ∃ i, (0 ≤ i ∧ i < V q 5) ∧ V 18 (V (q + 1) i) = b
theorem l_99 {X : aX} {h : aH} {b : Int} {q : Nat} (S : wS h) (L : vw h q 1 = ((16 : Nat) : Int) ∧ vw h q 6 = ((q + 1 : Nat) : Int)) (hN : vw h q 5 ≤ 300) : ∀ (n : Nat) (x1 x2 : Int32) (k : Int), x1.toInt = b → x2.toInt = k → 0 ≤ k → (∀ i, 0 ≤ i → i < k → ¬ vw h 18 (vw h (q + 1) i) = b) → Pt n X zM99 2 [some (.ref q), some (.int x1), some (.int x2)] [] h (qI (fun r h' => h' = h ∧ r = bI (clm (vw h) q b))) := by
  intro n
  induction n with
  | zero => intros; exact pt_z
  | succ n ih =>
    intro x1 x2 k h1 h2 k0 no
    refine d99_2 S h1 h2 ⟨fun e => ⟨rfl, (bI_f (fun ⟨i, m, z⟩ => no i m.1 (by omega) z)).symm⟩, fun e => ⟨L, fun z w g => ?_, fun z => ⟨rfl, (bI_t ⟨k, ⟨k0, e⟩, z⟩).symm⟩⟩⟩
    replace g := w_1 g (by omega) (by omega)
    refine ih x1 w (k + 1) h1 g (by omega) (fun i a c => ?_)
    by_cases y : i = k
    · rw [y]
      exact z
    · exact no i a (by omega)
theorem c_99 {n : Nat} {X : aX} {h : aH} {x1 : Int32} {a1 : Int} {q0 : Nat} (S : wS h) (z1 : x1.toInt = a1) (hp : (vw h q0 1 = ((16 : Nat) : Int) ∧ vw h q0 6 = ((q0 + 1 : Nat) : Int)) ∧ vw h q0 5 ≤ 300) : Pt n X zM99 0 [some (.ref q0), some (.int x1), none] [] h (qI (fun r h' => h' = h ∧ r = bI (clm (vw h) q0 a1))) :=
  pt_d (d99_0 S z1 (fun w g => l_99 S hp.1 hp.2 n x1 w 0 z1 g (Int.le_refl _) (fun i a c => by omega)))

theorem d84_0 {n : Nat} {X : aX} {h : aH} {P : Int → aH → Prop} {x1 x2 : Int32} {a1 a2 : Int} (S : wS h) (z1 : x1.toInt = a1) (z2 : x2.toInt = a2) (H : (∀ (w3 : Int32), w3.toInt = 0 → Pt n X zM84 2 [some (.ref 1), some (.int x1), some (.int x2), some (.int w3)] [] h (qI P))) : Pt (n + 1) X zM84 0 [some (.ref 1), some (.int x1), some (.int x2), none] [] h (qI P) := by
  refine pt_iconst gx84_0 (fun v1 h1 => ?_)
  refine pt_d (pt_1 (fun n d => r_istoren (L' := [some (.ref 1), some (.int x1), some (.int x2), some (.int v1)]) gx84_1 rfl rfl) ?_)
  exact H v1 h1
theorem d84_2 {n : Nat} {X : aX} {h : aH} {P : Int → aH → Prop} {x1 x2 x3 : Int32} {a1 a2 a3 : Int} (S : wS h) (z1 : x1.toInt = a1) (z2 : x2.toInt = a2) (z3 : x3.toInt = a3) (H : ((24 ≤ a3 → P 0 h) ∧ (a3 < 24 → (((0 ≤ a1 ∧ a1 < 150) ∧ 0 ≤ a3 ∧ a3 < 24) ∧ (((0 ≤ a2 ∧ a2 < 150) ∧ 0 ≤ a3 ∧ a3 < 24) ∧ ((bAnd ((vw h) 8 (24 * a1 + a3)) ((vw h) 8 (24 * a2 + a3)) = 0 → (∀ (w3 : Int32), w3.toInt = w32 (a3 + 1) → Pt n X zM84 2 [some (.ref 1), some (.int x1), some (.int x2), some (.int w3)] [] h (qI P))) ∧ (bAnd ((vw h) 8 (24 * a1 + a3)) ((vw h) 8 (24 * a2 + a3)) ≠ 0 → P 1 h))))))) : Pt (n + 1) X zM84 2 [some (.ref 1), some (.int x1), some (.int x2), some (.int x3)] [] h (qI P) := by
  refine pt_1 (fun n d => r_iloadn gx84_2 rfl) ?_
  refine pt_d (pt_bipush gx84_3 (fun v1 h1 => ?_))
  refine pt_d (pt_icmp_ge gx84_5 z3 h1 (fun e2 => ?_) (fun e2 => ?_))
  · have H := H.1 e2
    refine pt_d (pt_iconst gx84_32 (fun v3 h3 => ?_))
    exact pt_d (pt_iret gx84_33 ⟨_, rfl, by rw [h3]; exact H⟩)
  · have H := H.2 e2
    refine pt_d (pt_1 (fun n d => r_aloadn gx84_8 rfl) ?_)
    refine pt_d (pt_1 (fun n d => r_iloadn gx84_9 rfl) ?_)
    refine pt_d (pt_1 (fun n d => r_iloadn gx84_10 rfl) ?_)
    obtain ⟨pr4, H⟩ := H
    refine pt_d (pt_virt (as := [.int x1, .int x3]) (r := []) gx84_11 rfl (show zmt[82]? = some zM82 from rfl) rfl rfl rfl rfl (k_82 S z1 z3 pr4) (kqP (fun v4 h4 => ?_)))
    show Pt _ _ _ 14 _ [.int v4] _ _
    refine pt_d (pt_1 (fun n d => r_aloadn gx84_14 rfl) ?_)
    refine pt_d (pt_1 (fun n d => r_iloadn gx84_15 rfl) ?_)
    refine pt_d (pt_1 (fun n d => r_iloadn gx84_16 rfl) ?_)
    obtain ⟨pr5, H⟩ := H
    refine pt_d (pt_virt (as := [.int x2, .int x3]) (r := [.int v4]) gx84_17 rfl (show zmt[82]? = some zM82 from rfl) rfl rfl rfl rfl (k_82 S z2 z3 pr5) (kqP (fun v5 h5 => ?_)))
    show Pt _ _ _ 20 _ [.int v5, .int v4] _ _
    refine pt_d (pt_iand gx84_20 h4 h5 (fun v6 h6 => ?_))
    refine pt_d (pt_if_eq gx84_21 h6 (fun e7 => ?_) (fun e7 => ?_))
    · have H := H.1 e7
      refine pt_d (pt_iinc (c := 1) gx84_26 rfl z3 (fun v8 h8 => ?_))
      show Pt _ _ _ _ [some (.ref 1), some (.int x1), some (.int x2), some (.int v8)] [] _ _
      refine pt_d (pt_1 (fun n d => r_goto gx84_29) ?_)
      exact H v8 h8
    · have H := H.2 e7
      refine pt_d (pt_iconst gx84_24 (fun v9 h9 => ?_))
      exact pt_d (pt_iret gx84_25 ⟨_, rfl, by rw [h9]; exact H⟩)
def cMt (V : vS) (a b : Int) : Prop := ∃ y, (0 ≤ y ∧ y < 24) ∧ bAnd (V 8 (24 * a + y)) (V 8 (24 * b + y)) ≠ 0
theorem l_84 {X : aX} {h : aH} {a b : Int} (S : wS h) (ha : 0 ≤ a ∧ a < 150) (hb : 0 ≤ b ∧ b < 150) : ∀ (n : Nat) (x1 x2 x3 : Int32) (k : Int), x1.toInt = a → x2.toInt = b → x3.toInt = k → 0 ≤ k → k ≤ 24 → (∀ y, 0 ≤ y → y < k → ¬ bAnd (vw h 8 (24 * a + y)) (vw h 8 (24 * b + y)) ≠ 0) → Pt n X zM84 2 [some (.ref 1), some (.int x1), some (.int x2), some (.int x3)] [] h (qI (fun r h' => h' = h ∧ r = bI (cMt (vw h) a b))) := by
  intro n
  induction n with
  | zero => intros; exact pt_z
  | succ n ih =>
    intro x1 x2 x3 k h1 h2 h3 k0 k1 no
    have next : bAnd (vw h 8 (24 * a + k)) (vw h 8 (24 * b + k)) = 0 → k < 24 → ∀ w : Int32, w.toInt = w32 (k + 1) → Pt n X zM84 2 [some (.ref 1), some (.int x1), some (.int x2), some (.int w)] [] h (qI (fun r h' => h' = h ∧ r = bI (cMt (vw h) a b))) := by
      intro z e w g
      replace g := w_1 g (by omega) (by omega)
      refine ih x1 x2 w (k + 1) h1 h2 g (by omega) (by omega) (fun y y0 yk => ?_)
      by_cases q : y = k
      · rw [q]
        exact fun w => w z
      · exact no y y0 (by omega)
    refine d84_2 S h1 h2 h3 ⟨fun e => ⟨rfl, (bI_f (fun ⟨y, m, z⟩ => no y m.1 (by omega) z)).symm⟩, fun e => ⟨⟨ha, k0, e⟩, ⟨hb, k0, e⟩, fun z w g => next z e w g, fun z => ⟨rfl, (bI_t ⟨k, ⟨k0, e⟩, z⟩).symm⟩⟩⟩
theorem c_84 {n : Nat} {X : aX} {h : aH} {x1 x2 : Int32} {a1 a2 : Int} (S : wS h) (z1 : x1.toInt = a1) (z2 : x2.toInt = a2) (hp : (0 ≤ a1 ∧ a1 < 150) ∧ 0 ≤ a2 ∧ a2 < 150) : Pt n X zM84 0 [some (.ref 1), some (.int x1), some (.int x2), none] [] h (qI (fun r h' => h' = h ∧ r = bI (cMt (vw h) a1 a2))) :=
  pt_d (d84_0 S z1 z2 (fun w g => l_84 S hp.1 hp.2 n x1 x2 w 0 z1 z2 g (Int.le_refl _) (by decide) (fun y a c => by omega)))

theorem d282_0 {n : Nat} {X : aX} {h : aH} {P : Int → aH → Prop} {x1 x2 : Int32} {a1 a2 : Int} (S : wS h) (z1 : x1.toInt = a1) (z2 : x2.toInt = a2) (H : (∀ (w3 : Int32), w3.toInt = 0 → Pt n X zM282 2 [some (.ref 72), some (.int x1), some (.int x2), some (.int w3)] [] h (qI P))) : Pt (n + 1) X zM282 0 [some (.ref 72), some (.int x1), some (.int x2), none] [] h (qI P) := by
  refine pt_iconst gx282_0 (fun v1 h1 => ?_)
  refine pt_d (pt_1 (fun n d => r_istoren (L' := [some (.ref 72), some (.int x1), some (.int x2), some (.int v1)]) gx282_1 rfl rfl) ?_)
  exact H v1 h1
theorem d282_2 {n : Nat} {X : aX} {h : aH} {P : Int → aH → Prop} {x1 x2 x3 : Int32} {a1 a2 a3 : Int} (S : wS h) (z1 : x1.toInt = a1) (z2 : x2.toInt = a2) (z3 : x3.toInt = a3) (H : ((24 ≤ a3 → P 0 h) ∧ (a3 < 24 → (0 ≤ w32 ((w32 (24 * a1)) + a3) → w32 ((w32 (24 * a1)) + a3) < 3600 → (0 ≤ w32 ((w32 (24 * a2)) + a3) → w32 ((w32 (24 * a2)) + a3) < 3600 → ((bAnd (vw h 80 (w32 ((w32 (24 * a1)) + a3))) (vw h 80 (w32 ((w32 (24 * a2)) + a3))) = 0 → (∀ (w3 : Int32), w3.toInt = w32 (a3 + 1) → Pt n X zM282 2 [some (.ref 72), some (.int x1), some (.int x2), some (.int w3)] [] h (qI P))) ∧ (bAnd (vw h 80 (w32 ((w32 (24 * a1)) + a3))) (vw h 80 (w32 ((w32 (24 * a2)) + a3))) ≠ 0 → P 1 h))))))) : Pt (n + 1) X zM282 2 [some (.ref 72), some (.int x1), some (.int x2), some (.int x3)] [] h (qI P) := by
  refine pt_1 (fun n d => r_iloadn gx282_2 rfl) ?_
  refine pt_d (pt_bipush gx282_3 (fun v1 h1 => ?_))
  refine pt_d (pt_icmp_ge gx282_5 z3 h1 (fun e2 => ?_) (fun e2 => ?_))
  · have H := H.1 e2
    refine pt_d (pt_iconst gx282_42 (fun v3 h3 => ?_))
    exact pt_d (pt_iret gx282_43 ⟨_, rfl, by rw [h3]; exact H⟩)
  · have H := H.2 e2
    refine pt_d (pt_1 (fun n d => r_aloadn gx282_8 rfl) ?_)
    refine pt_d (pt_getR gx282_9 S tr_72_10 ?_)
    refine pt_d (pt_bipush gx282_12 (fun v5 h5 => ?_))
    refine pt_d (pt_1 (fun n d => r_iloadn gx282_14 rfl) ?_)
    refine pt_d (pt_imul gx282_15 h5 z1 (fun v6 h6 => ?_))
    refine pt_d (pt_1 (fun n d => r_iloadn gx282_16 rfl) ?_)
    refine pt_d (pt_iadd gx282_17 h6 z3 (fun v7 h7 => ?_))
    refine pt_d (pt_iald (N' := 3600) gx282_18 S tl_80 h7 (fun v8 p8 q8 h8 => ?_))
    have H := H p8 q8
    refine pt_d (pt_1 (fun n d => r_aloadn gx282_19 rfl) ?_)
    refine pt_d (pt_getR gx282_20 S tr_72_10 ?_)
    refine pt_d (pt_bipush gx282_23 (fun v10 h10 => ?_))
    refine pt_d (pt_1 (fun n d => r_iloadn gx282_25 rfl) ?_)
    refine pt_d (pt_imul gx282_26 h10 z2 (fun v11 h11 => ?_))
    refine pt_d (pt_1 (fun n d => r_iloadn gx282_27 rfl) ?_)
    refine pt_d (pt_iadd gx282_28 h11 z3 (fun v12 h12 => ?_))
    refine pt_d (pt_iald (N' := 3600) gx282_29 S tl_80 h12 (fun v13 p13 q13 h13 => ?_))
    have H := H p13 q13
    refine pt_d (pt_iand gx282_30 h8 h13 (fun v14 h14 => ?_))
    refine pt_d (pt_if_eq gx282_31 h14 (fun e15 => ?_) (fun e15 => ?_))
    · have H := H.1 e15
      refine pt_d (pt_iinc (c := 1) gx282_36 rfl z3 (fun v16 h16 => ?_))
      show Pt _ _ _ _ [some (.ref 72), some (.int x1), some (.int x2), some (.int v16)] [] _ _
      refine pt_d (pt_1 (fun n d => r_goto gx282_39) ?_)
      exact H v16 h16
    · have H := H.2 e15
      refine pt_d (pt_iconst gx282_34 (fun v17 h17 => ?_))
      exact pt_d (pt_iret gx282_35 ⟨_, rfl, by rw [h17]; exact H⟩)
def mMt (V : vS) (a b : Int) : Prop := ∃ y, (0 ≤ y ∧ y < 24) ∧ bAnd (V 80 (24 * a + y)) (V 80 (24 * b + y)) ≠ 0
theorem l_282 {X : aX} {h : aH} {a b : Int} (S : wS h) (ha : 0 ≤ a ∧ a < 150) (hb : 0 ≤ b ∧ b < 150) : ∀ (n : Nat) (x1 x2 x3 : Int32) (k : Int), x1.toInt = a → x2.toInt = b → x3.toInt = k → 0 ≤ k → k ≤ 24 → (∀ y, 0 ≤ y → y < k → ¬ bAnd (vw h 80 (24 * a + y)) (vw h 80 (24 * b + y)) ≠ 0) → Pt n X zM282 2 [some (.ref 72), some (.int x1), some (.int x2), some (.int x3)] [] h (qI (fun r h' => h' = h ∧ r = bI (mMt (vw h) a b))) := by
  intro n
  induction n with
  | zero => intros; exact pt_z
  | succ n ih =>
    intro x1 x2 x3 k h1 h2 h3 k0 k1 no
    have next : bAnd (vw h 80 (24 * a + k)) (vw h 80 (24 * b + k)) = 0 → k < 24 → ∀ w : Int32, w.toInt = w32 (k + 1) → Pt n X zM282 2 [some (.ref 72), some (.int x1), some (.int x2), some (.int w)] [] h (qI (fun r h' => h' = h ∧ r = bI (mMt (vw h) a b))) := by
      intro z e w g
      replace g := w_1 g (by omega) (by omega)
      refine ih x1 x2 w (k + 1) h1 h2 g (by omega) (by omega) (fun y y0 yk => ?_)
      by_cases q : y = k
      · rw [q]
        exact fun w => w z
      · exact no y y0 (by omega)
    have wa : w32 (w32 (24 * a) + k) = 24 * a + k := by rw [w32_id (z := 24 * a) (by omega) (by omega), w32_id (by omega) (by omega)]
    have wb : w32 (w32 (24 * b) + k) = 24 * b + k := by rw [w32_id (z := 24 * b) (by omega) (by omega), w32_id (by omega) (by omega)]
    refine d282_2 S h1 h2 h3 ⟨fun e => ⟨rfl, (bI_f (fun ⟨y, m, z⟩ => no y m.1 (by omega) z)).symm⟩, fun e => fun _ _ _ _ => ?_⟩
    rw [wa, wb]
    exact ⟨fun z w g => next z e w g, fun z => ⟨rfl, (bI_t ⟨k, ⟨k0, e⟩, z⟩).symm⟩⟩
theorem c_282 {n : Nat} {X : aX} {h : aH} {x1 x2 : Int32} {a1 a2 : Int} (S : wS h) (z1 : x1.toInt = a1) (z2 : x2.toInt = a2) (hp : (0 ≤ a1 ∧ a1 < 150) ∧ 0 ≤ a2 ∧ a2 < 150) : Pt n X zM282 0 [some (.ref 72), some (.int x1), some (.int x2), none] [] h (qI (fun r h' => h' = h ∧ r = bI (mMt (vw h) a1 a2))) :=
  pt_d (d282_0 S z1 z2 (fun w g => l_282 S hp.1 hp.2 n x1 x2 w 0 z1 z2 g (Int.le_refl _) (by decide) (fun y a c => by omega)))

theorem d55_0 {n : Nat} {X : aX} {h : aH} {P : Int → aH → Prop} {x0 x1 : Int32} {a0 a1 : Int} {q2 : Nat} (S : wS h) (z0 : x0.toInt = a0) (z1 : x1.toInt = a1) (H : (∀ (w3 : Int32) (u4_ : Option Value), w3.toInt = 0 → Pt n X zM55 2 [some (.int x0), some (.int x1), some (.ref q2), some (.int w3), u4_] [] h (qI P))) : Pt (n + 1) X zM55 0 [some (.int x0), some (.int x1), some (.ref q2), none, none] [] h (qI P) := by
  refine pt_iconst gx55_0 (fun v1 h1 => ?_)
  refine pt_d (pt_1 (fun n d => r_istoren (L' := [some (.int x0), some (.int x1), some (.ref q2), some (.int v1), none]) gx55_1 rfl rfl) ?_)
  exact H v1 _ h1
theorem d55_2 {n : Nat} {X : aX} {h : aH} {P : Int → aH → Prop} {x0 x1 x3 : Int32} {a0 a1 a3 : Int} {u4 : Option Value} {q2 : Nat} (S : wS h) (z0 : x0.toInt = a0) (z1 : x1.toInt = a1) (z3 : x3.toInt = a3) (H : ((vw h q2 5 ≤ a3 → P 0 h) ∧ (a3 < vw h q2 5 → (∀ (w4 : Int32), w4.toInt = 0 → Pt n X zM55 13 [some (.int x0), some (.int x1), some (.ref q2), some (.int x3), some (.int w4)] [] h (qI P))))) : Pt (n + 1) X zM55 2 [some (.int x0), some (.int x1), some (.ref q2), some (.int x3), u4] [] h (qI P) := by
  refine pt_1 (fun n d => r_iloadn gx55_2 rfl) ?_
  refine pt_d (pt_1 (fun n d => r_aloadn gx55_3 rfl) ?_)
  refine pt_d (pt_getI (B := 5) gx55_4 S (fun v1 h1 => ?_))
  refine pt_d (pt_icmp_ge gx55_7 z3 h1 (fun e2 => ?_) (fun e2 => ?_))
  · have H := H.1 e2
    refine pt_d (pt_iconst gx55_69 (fun v3 h3 => ?_))
    exact pt_d (pt_iret gx55_70 ⟨_, rfl, by rw [h3]; exact H⟩)
  · have H := H.2 e2
    refine pt_d (pt_iconst gx55_10 (fun v4 h4 => ?_))
    refine pt_d (pt_1 (fun n d => r_istore (L' := [some (.int x0), some (.int x1), some (.ref q2), some (.int x3), some (.int v4)]) gx55_11 rfl rfl) ?_)
    exact H v4 h4
theorem d55_13 {n : Nat} {X : aX} {h : aH} {P : Int → aH → Prop} {x0 x1 x3 x4 : Int32} {a0 a1 a3 a4 : Int} {q2 : Nat} (S : wS h) (z0 : x0.toInt = a0) (z1 : x1.toInt = a1) (z3 : x3.toInt = a3) (z4 : x4.toInt = a4) (H : ((vw h q2 5 ≤ a4 → (∀ (w3 : Int32) (u4_ : Option Value), w3.toInt = w32 (a3 + 1) → Pt n X zM55 2 [some (.int x0), some (.int x1), some (.ref q2), some (.int w3), u4_] [] h (qI P))) ∧ (a4 < vw h q2 5 → ((vw h q2 1 = ((16 : Nat) : Int) ∧ vw h q2 6 = ((q2 + 1 : Nat) : Int)) ∧ (((vw h) 18 ((vw h) (q2 + 1) a3) ≠ a0 → (∀ (w3 : Int32) (u4_ : Option Value), w3.toInt = w32 (a3 + 1) → Pt n X zM55 2 [some (.int x0), some (.int x1), some (.ref q2), some (.int w3), u4_] [] h (qI P))) ∧ ((vw h) 18 ((vw h) (q2 + 1) a3) = a0 → ((vw h q2 1 = ((16 : Nat) : Int) ∧ vw h q2 6 = ((q2 + 1 : Nat) : Int)) ∧ (((vw h) 18 ((vw h) (q2 + 1) a4) ≠ a1 → (∀ (w4 : Int32), w4.toInt = w32 (a4 + 1) → Pt n X zM55 13 [some (.int x0), some (.int x1), some (.ref q2), some (.int x3), some (.int w4)] [] h (qI P))) ∧ ((vw h) 18 ((vw h) (q2 + 1) a4) = a1 → ((vw h q2 1 = ((16 : Nat) : Int) ∧ vw h q2 6 = ((q2 + 1 : Nat) : Int)) ∧ ((vw h q2 1 = ((16 : Nat) : Int) ∧ vw h q2 6 = ((q2 + 1 : Nat) : Int)) ∧ (((vw h) 17 ((vw h) (q2 + 1) a4) = (vw h) 17 ((vw h) (q2 + 1) a3) → (∀ (w4 : Int32), w4.toInt = w32 (a4 + 1) → Pt n X zM55 13 [some (.int x0), some (.int x1), some (.ref q2), some (.int x3), some (.int w4)] [] h (qI P))) ∧ ((vw h) 17 ((vw h) (q2 + 1) a4) ≠ (vw h) 17 ((vw h) (q2 + 1) a3) → P 1 h))))))))))))) : Pt (n + 1) X zM55 13 [some (.int x0), some (.int x1), some (.ref q2), some (.int x3), some (.int x4)] [] h (qI P) := by
  refine pt_1 (fun n d => r_iload gx55_13 rfl) ?_
  refine pt_d (pt_1 (fun n d => r_aloadn gx55_15 rfl) ?_)
  refine pt_d (pt_getI (B := 5) gx55_16 S (fun v1 h1 => ?_))
  refine pt_d (pt_icmp_ge gx55_19 z4 h1 (fun e2 => ?_) (fun e2 => ?_))
  · have H := H.1 e2
    refine pt_d (pt_iinc (c := 1) gx55_63 rfl z3 (fun v3 h3 => ?_))
    show Pt _ _ _ _ [some (.int x0), some (.int x1), some (.ref q2), some (.int v3), some (.int x4)] [] _ _
    refine pt_d (pt_1 (fun n d => r_goto gx55_66) ?_)
    exact H v3 _ h3
  · have H := H.2 e2
    refine pt_d (pt_1 (fun n d => r_aloadn gx55_22 rfl) ?_)
    refine pt_d (pt_1 (fun n d => r_iloadn gx55_23 rfl) ?_)
    obtain ⟨pr4, H⟩ := H
    refine pt_d (pt_virt (as := [.int x3]) (r := []) gx55_24 rfl (show zmt[101]? = some zM101 from rfl) rfl rfl rfl rfl (c_101 S z3 pr4) (kqP (fun v4 h4 => ?_)))
    show Pt _ _ _ 27 _ [.int v4] _ _
    refine pt_d (pt_1 (fun n d => r_iloadn gx55_27 rfl) ?_)
    refine pt_d (pt_icmp_ne gx55_28 h4 z0 (fun e5 => ?_) (fun e5 => ?_))
    · have H := H.1 e5
      refine pt_d (pt_iinc (c := 1) gx55_63 rfl z3 (fun v6 h6 => ?_))
      show Pt _ _ _ _ [some (.int x0), some (.int x1), some (.ref q2), some (.int v6), some (.int x4)] [] _ _
      refine pt_d (pt_1 (fun n d => r_goto gx55_66) ?_)
      exact H v6 _ h6
    · have H := H.2 e5
      refine pt_d (pt_1 (fun n d => r_aloadn gx55_31 rfl) ?_)
      refine pt_d (pt_1 (fun n d => r_iload gx55_32 rfl) ?_)
      obtain ⟨pr7, H⟩ := H
      refine pt_d (pt_virt (as := [.int x4]) (r := []) gx55_34 rfl (show zmt[101]? = some zM101 from rfl) rfl rfl rfl rfl (c_101 S z4 pr7) (kqP (fun v7 h7 => ?_)))
      show Pt _ _ _ 37 _ [.int v7] _ _
      refine pt_d (pt_1 (fun n d => r_iloadn gx55_37 rfl) ?_)
      refine pt_d (pt_icmp_ne gx55_38 h7 z1 (fun e8 => ?_) (fun e8 => ?_))
      · have H := H.1 e8
        refine pt_d (pt_iinc (c := 1) gx55_57 rfl z4 (fun v9 h9 => ?_))
        show Pt _ _ _ _ [some (.int x0), some (.int x1), some (.ref q2), some (.int x3), some (.int v9)] [] _ _
        refine pt_d (pt_1 (fun n d => r_goto gx55_60) ?_)
        exact H v9 h9
      · have H := H.2 e8
        refine pt_d (pt_1 (fun n d => r_aloadn gx55_41 rfl) ?_)
        refine pt_d (pt_1 (fun n d => r_iload gx55_42 rfl) ?_)
        obtain ⟨pr10, H⟩ := H
        refine pt_d (pt_virt (as := [.int x4]) (r := []) gx55_44 rfl (show zmt[100]? = some zM100 from rfl) rfl rfl rfl rfl (c_100 S z4 pr10) (kqP (fun v10 h10 => ?_)))
        show Pt _ _ _ 47 _ [.int v10] _ _
        refine pt_d (pt_1 (fun n d => r_aloadn gx55_47 rfl) ?_)
        refine pt_d (pt_1 (fun n d => r_iloadn gx55_48 rfl) ?_)
        obtain ⟨pr11, H⟩ := H
        refine pt_d (pt_virt (as := [.int x3]) (r := [.int v10]) gx55_49 rfl (show zmt[100]? = some zM100 from rfl) rfl rfl rfl rfl (c_100 S z3 pr11) (kqP (fun v11 h11 => ?_)))
        show Pt _ _ _ 52 _ [.int v11, .int v10] _ _
        refine pt_d (pt_icmp_eq gx55_52 h10 h11 (fun e12 => ?_) (fun e12 => ?_))
        · have H := H.1 e12
          refine pt_d (pt_iinc (c := 1) gx55_57 rfl z4 (fun v13 h13 => ?_))
          show Pt _ _ _ _ [some (.int x0), some (.int x1), some (.ref q2), some (.int x3), some (.int v13)] [] _ _
          refine pt_d (pt_1 (fun n d => r_goto gx55_60) ?_)
          exact H v13 h13
        · have H := H.2 e12
          refine pt_d (pt_iconst gx55_55 (fun v14 h14 => ?_))
          exact pt_d (pt_iret gx55_56 ⟨_, rfl, by rw [h14]; exact H⟩)
def two (V : vS) (q : Nat) (a b : Int) : Prop := ∃ i j, ((0 ≤ i ∧ i < V q 5) ∧ 0 ≤ j ∧ j < V q 5) ∧ V 18 (V (q + 1) i) = a ∧ V 18 (V (q + 1) j) = b ∧ V 17 (V (q + 1) j) ≠ V 17 (V (q + 1) i)
theorem l_55 {X : aX} {h : aH} {a b : Int} {q : Nat} (S : wS h) (L : vw h q 1 = ((16 : Nat) : Int) ∧ vw h q 6 = ((q + 1 : Nat) : Int)) (hN : vw h q 5 ≤ 300) : ∀ n : Nat, (∀ (x0 x1 x3 : Int32) (u4 : Option Value) (i : Int), x0.toInt = a → x1.toInt = b → x3.toInt = i → 0 ≤ i → (∀ i' j, 0 ≤ i' → i' < i → 0 ≤ j → j < vw h q 5 → ¬ (vw h 18 (vw h (q + 1) i') = a ∧ vw h 18 (vw h (q + 1) j) = b ∧ vw h 17 (vw h (q + 1) j) ≠ vw h 17 (vw h (q + 1) i'))) → Pt n X zM55 2 [some (.int x0), some (.int x1), some (.ref q), some (.int x3), u4] [] h (qI (fun r h' => h' = h ∧ r = bI (two (vw h) q a b)))) ∧
    (∀ (x0 x1 x3 x4 : Int32) (i j : Int), x0.toInt = a → x1.toInt = b → x3.toInt = i → x4.toInt = j → (0 ≤ i ∧ i < vw h q 5) → 0 ≤ j → (∀ i' j, 0 ≤ i' → i' < i → 0 ≤ j → j < vw h q 5 → ¬ (vw h 18 (vw h (q + 1) i') = a ∧ vw h 18 (vw h (q + 1) j) = b ∧ vw h 17 (vw h (q + 1) j) ≠ vw h 17 (vw h (q + 1) i'))) → (∀ j', 0 ≤ j' → j' < j → ¬ (vw h 18 (vw h (q + 1) j') = b ∧ vw h 17 (vw h (q + 1) j') ≠ vw h 17 (vw h (q + 1) i))) → Pt n X zM55 13 [some (.int x0), some (.int x1), some (.ref q), some (.int x3), some (.int x4)] [] h (qI (fun r h' => h' = h ∧ r = bI (two (vw h) q a b)))) := by
  intro n
  induction n with
  | zero => exact ⟨by intros; exact pt_z, by intros; exact pt_z⟩
  | succ n ih =>
    refine ⟨fun x0 x1 x3 u4 i h0 h1 h3 i0 no => ?_, fun x0 x1 x3 x4 i j h0 h1 h3 h4 hi j0 no nj => ?_⟩
    · refine d55_2 S h0 h1 h3 ⟨fun e => ⟨rfl, (bI_f (fun ⟨i', j, m, z⟩ => no i' j m.1.1 (by omega) m.2.1 m.2.2 z)).symm⟩, fun e w g => ?_⟩
      exact ih.2 x0 x1 x3 w i 0 h0 h1 h3 g ⟨i0, e⟩ (Int.le_refl _) no (fun j' a c => by omega)
    · have out : (∀ j', 0 ≤ j' → j' < vw h q 5 → ¬ (vw h 18 (vw h (q + 1) i) = a ∧ vw h 18 (vw h (q + 1) j') = b ∧ vw h 17 (vw h (q + 1) j') ≠ vw h 17 (vw h (q + 1) i))) → ∀ (w : Int32) (u : Option Value), w.toInt = w32 (i + 1) → Pt n X zM55 2 [some (.int x0), some (.int x1), some (.ref q), some (.int w), u] [] h (qI (fun r h' => h' = h ∧ r = bI (two (vw h) q a b))) := by
        intro z w u g
        replace g := w_1 g (by omega) (by omega)
        refine ih.1 x0 x1 w u (i + 1) h0 h1 g (by omega) (fun i' j' a c d e => ?_)
        by_cases y : i' = i
        · rw [y]
          exact z j' d e
        · exact no i' j' a (by omega) d e
      have next : j < vw h q 5 → ¬ (vw h 18 (vw h (q + 1) j) = b ∧ vw h 17 (vw h (q + 1) j) ≠ vw h 17 (vw h (q + 1) i)) → ∀ w : Int32, w.toInt = w32 (j + 1) → Pt n X zM55 13 [some (.int x0), some (.int x1), some (.ref q), some (.int x3), some (.int w)] [] h (qI (fun r h' => h' = h ∧ r = bI (two (vw h) q a b))) := by
        intro e z w g
        replace g := w_1 g (by omega) (by omega)
        refine ih.2 x0 x1 x3 w i (j + 1) h0 h1 h3 g hi (by omega) no (fun j' a c => ?_)
        by_cases y : j' = j
        · rw [y]
          exact z
        · exact nj j' a (by omega)
      refine d55_13 S h0 h1 h3 h4 ⟨fun e w u g => out (fun j' a c z => nj j' a (by omega) z.2) w u g, fun e => ⟨L, fun z w u g => out (fun j' a c y => z y.1) w u g, fun z => ⟨L, fun z2 w g => next e (fun y => z2 y.1) w g, fun z2 => ⟨L, L, fun z3 w g => next e (fun y => y.2 z3) w g, fun z3 => ⟨rfl, (bI_t ⟨i, j, ⟨hi, j0, e⟩, z, z2, z3⟩).symm⟩⟩⟩⟩⟩
theorem c_55 {n : Nat} {X : aX} {h : aH} {x0 x1 : Int32} {a0 a1 : Int} {q2 : Nat} (S : wS h) (z0 : x0.toInt = a0) (z1 : x1.toInt = a1) (hp : (vw h q2 1 = ((16 : Nat) : Int) ∧ vw h q2 6 = ((q2 + 1 : Nat) : Int)) ∧ vw h q2 5 ≤ 300) : Pt n X zM55 0 [some (.int x0), some (.int x1), some (.ref q2), none, none] [] h (qI (fun r h' => h' = h ∧ r = bI (two (vw h) q2 a0 a1))) :=
  pt_d (d55_0 S z0 z1 (fun w u g => (l_55 S hp.1 hp.2 n).1 x0 x1 w u 0 z0 z1 g (Int.le_refl _) (fun i j a c => by omega)))


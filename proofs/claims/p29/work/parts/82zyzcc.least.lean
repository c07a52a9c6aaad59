-- ===== the least land =====
theorem d56_0 {n : Nat} {X : aX} {h : aH} {P : Int → aH → Prop} {x1 : Int32} {a1 : Int} (S : wS h) (z1 : x1.toInt = a1) (H : (∀ (w2 : Int32) (w3 : Int32), w2.toInt = w32 ((bShl 1 a1) - 1) → w3.toInt = 0 → Pt n X zM56 8 [some (.ref 48), some (.int x1), some (.int w2), some (.int w3)] [] h (qI P))) : Pt (n + 1) X zM56 0 [some (.ref 48), some (.int x1), none, none] [] h (qI P) := by
  refine pt_iconst gx56_0 (fun v1 h1 => ?_)
  refine pt_d (pt_1 (fun n d => r_iloadn gx56_1 rfl) ?_)
  refine pt_d (pt_ishl gx56_2 h1 z1 (fun v2 h2 => ?_))
  refine pt_d (pt_iconst gx56_3 (fun v3 h3 => ?_))
  refine pt_d (pt_isub gx56_4 h2 h3 (fun v4 h4 => ?_))
  refine pt_d (pt_1 (fun n d => r_istoren (L' := [some (.ref 48), some (.int x1), some (.int v4), none]) gx56_5 rfl rfl) ?_)
  refine pt_d (pt_iconst gx56_6 (fun v5 h5 => ?_))
  refine pt_d (pt_1 (fun n d => r_istoren (L' := [some (.ref 48), some (.int x1), some (.int v4), some (.int v5)]) gx56_7 rfl rfl) ?_)
  exact H v4 v5 h4 h5
theorem d56_8 {n : Nat} {X : aX} {h : aH} {P : Int → aH → Prop} {x1 x2 x3 : Int32} {a1 a2 a3 : Int} (S : wS h) (z1 : x1.toInt = a1) (z2 : x2.toInt = a2) (z3 : x3.toInt = a3) (H : ((bShl 1 a1 ≤ a3 → P a2 h) ∧ (a3 < bShl 1 a1 → ((a1 ≤ 10) ∧ ((¬ (endA (vw h) a3 a1) → (∀ (w3 : Int32), w3.toInt = w32 (a3 + 1) → Pt n X zM56 8 [some (.ref 48), some (.int x1), some (.int x2), some (.int w3)] [] h (qI P))) ∧ ((endA (vw h) a3 a1) → (((0 ≤ a3 ∧ 0 ≤ a2) ∧ a1 ≤ 10) ∧ ((¬ (isL (vw h) a3 a2 a1) → (∀ (w3 : Int32), w3.toInt = w32 (a3 + 1) → Pt n X zM56 8 [some (.ref 48), some (.int x1), some (.int x2), some (.int w3)] [] h (qI P))) ∧ ((isL (vw h) a3 a2 a1) → (∀ (w3 : Int32), w3.toInt = w32 (a3 + 1) → Pt n X zM56 8 [some (.ref 48), some (.int x1), some (.int x3), some (.int w3)] [] h (qI P))))))))))) : Pt (n + 1) X zM56 8 [some (.ref 48), some (.int x1), some (.int x2), some (.int x3)] [] h (qI P) := by
  refine pt_1 (fun n d => r_iloadn gx56_8 rfl) ?_
  refine pt_d (pt_iconst gx56_9 (fun v1 h1 => ?_))
  refine pt_d (pt_1 (fun n d => r_iloadn gx56_10 rfl) ?_)
  refine pt_d (pt_ishl gx56_11 h1 z1 (fun v2 h2 => ?_))
  refine pt_d (pt_icmp_ge gx56_12 z3 h2 (fun e3 => ?_) (fun e3 => ?_))
  · have H := H.1 e3
    refine pt_d (pt_1 (fun n d => r_iloadn gx56_42 rfl) ?_)
    exact pt_d (pt_iret gx56_43 ⟨_, rfl, by rw [z2]; exact H⟩)
  · have H := H.2 e3
    refine pt_d (pt_1 (fun n d => r_aloadn gx56_15 rfl) ?_)
    refine pt_d (pt_1 (fun n d => r_iloadn gx56_16 rfl) ?_)
    refine pt_d (pt_1 (fun n d => r_iloadn gx56_17 rfl) ?_)
    obtain ⟨pr4, H⟩ := H
    refine pt_d (pt_virt (as := [.int x3, .int x1]) (r := []) gx56_18 rfl (show zmt[57]? = some zM57 from rfl) rfl rfl rfl rfl (c_57 S z3 z1 pr4) (kqP (fun v4 h4 => ?_)))
    show Pt _ _ _ 21 _ [.int v4] _ _
    refine pt_d (pt_ifB_eq gx56_21 h4 (fun e5 => ?_) (fun e5 => ?_))
    · have H := H.1 e5
      refine pt_d (pt_iinc (c := 1) gx56_36 rfl z3 (fun v6 h6 => ?_))
      show Pt _ _ _ _ [some (.ref 48), some (.int x1), some (.int x2), some (.int v6)] [] _ _
      refine pt_d (pt_1 (fun n d => r_goto gx56_39) ?_)
      exact H v6 h6
    · have H := H.2 e5
      refine pt_d (pt_1 (fun n d => r_aloadn gx56_24 rfl) ?_)
      refine pt_d (pt_1 (fun n d => r_iloadn gx56_25 rfl) ?_)
      refine pt_d (pt_1 (fun n d => r_iloadn gx56_26 rfl) ?_)
      refine pt_d (pt_1 (fun n d => r_iloadn gx56_27 rfl) ?_)
      obtain ⟨pr7, H⟩ := H
      refine pt_d (pt_virt (as := [.int x3, .int x2, .int x1]) (r := []) gx56_28 rfl (show zmt[58]? = some zM58 from rfl) rfl rfl rfl rfl (c_58 S z3 z2 z1 pr7) (kqP (fun v7 h7 => ?_)))
      show Pt _ _ _ 31 _ [.int v7] _ _
      refine pt_d (pt_ifB_eq gx56_31 h7 (fun e8 => ?_) (fun e8 => ?_))
      · have H := H.1 e8
        refine pt_d (pt_iinc (c := 1) gx56_36 rfl z3 (fun v9 h9 => ?_))
        show Pt _ _ _ _ [some (.ref 48), some (.int x1), some (.int x2), some (.int v9)] [] _ _
        refine pt_d (pt_1 (fun n d => r_goto gx56_39) ?_)
        exact H v9 h9
      · have H := H.2 e8
        refine pt_d (pt_1 (fun n d => r_iloadn gx56_34 rfl) ?_)
        refine pt_d (pt_1 (fun n d => r_istoren (L' := [some (.ref 48), some (.int x1), some (.int x3), some (.int x3)]) gx56_35 rfl rfl) ?_)
        refine pt_d (pt_iinc (c := 1) gx56_36 rfl z3 (fun v10 h10 => ?_))
        show Pt _ _ _ _ [some (.ref 48), some (.int x1), some (.int x3), some (.int v10)] [] _ _
        refine pt_d (pt_1 (fun n d => r_goto gx56_39) ?_)
        exact H v10 h10
theorem d60_0 {n : Nat} {X : aX} {h : aH} {P : Int → aH → Prop} {x1 x2 : Int32} {a1 a2 : Int} (S : wS h) (z1 : x1.toInt = a1) (z2 : x2.toInt = a2) (H : ∀ h_2 : aH, wS h_2 → vw h_2 = up (vw h) 48 4 0 → (∀ (w3 : Int32), w3.toInt = 0 → Pt n X zM60 7 [some (.ref 48), some (.int x1), some (.int x2), some (.int w3)] [] h_2 (qI P))) : Pt (n + 1) X zM60 0 [some (.ref 48), some (.int x1), some (.int x2), none] [] h (qI P) := by
  refine pt_1 (fun n d => r_aloadn gx60_0 rfl) ?_
  refine pt_d (pt_iconst gx60_1 (fun v1 h1 => ?_))
  refine pt_d (pt_putI (B := 4) gx60_2 S h1 (fun h_2 S2 e2 => ?_))
  refine pt_d (pt_iconst gx60_5 (fun v3 h3 => ?_))
  refine pt_d (pt_1 (fun n d => r_istoren (L' := [some (.ref 48), some (.int x1), some (.int x2), some (.int v3)]) gx60_6 rfl rfl) ?_)
  have H := H h_2 S2 (by rw [e2])
  exact H v3 h3
theorem d60_7 {n : Nat} {X : aX} {h : aH} {P : Int → aH → Prop} {x1 x2 x3 : Int32} {a1 a2 a3 : Int} (S : wS h) (z1 : x1.toInt = a1) (z2 : x2.toInt = a2) (z3 : x3.toInt = a3) (H : ((a2 ≤ a3 → ((a2 ≤ 10) ∧ P (arN (vw h) a1 (a2).toNat) h)) ∧ (a3 < a2 → ((bAnd (bShr a1 a3) 1 ≠ 1 → (∀ (w3 : Int32), w3.toInt = w32 (a3 + 1) → Pt n X zM60 7 [some (.ref 48), some (.int x1), some (.int x2), some (.int w3)] [] h (qI P))) ∧ (bAnd (bShr a1 a3) 1 = 1 → (0 ≤ a3 → a3 < 10 → (0 ≤ vw h 48 4 → vw h 48 4 < 10 → ∀ h_17 : aH, wS h_17 → vw h_17 = up (up (vw h) 49 (vw h 48 4) (vw h 50 a3)) 48 4 (w32 ((vw h 48 4) + 1)) → (∀ (w3 : Int32), w3.toInt = w32 (a3 + 1) → Pt n X zM60 7 [some (.ref 48), some (.int x1), some (.int x2), some (.int w3)] [] h_17 (qI P))))))))) : Pt (n + 1) X zM60 7 [some (.ref 48), some (.int x1), some (.int x2), some (.int x3)] [] h (qI P) := by
  refine pt_1 (fun n d => r_iloadn gx60_7 rfl) ?_
  refine pt_d (pt_1 (fun n d => r_iloadn gx60_8 rfl) ?_)
  refine pt_d (pt_icmp_ge gx60_9 z3 z2 (fun e1 => ?_) (fun e1 => ?_))
  · have H := H.1 e1
    refine pt_d (pt_1 (fun n d => r_aloadn gx60_52 rfl) ?_)
    refine pt_d (pt_1 (fun n d => r_iloadn gx60_53 rfl) ?_)
    refine pt_d (pt_1 (fun n d => r_iloadn gx60_54 rfl) ?_)
    obtain ⟨pr2, H⟩ := H
    refine pt_d (pt_virt (as := [.int x1, .int x2]) (r := []) gx60_55 rfl (show zmt[59]? = some zM59 from rfl) rfl rfl rfl rfl (c_59 S z1 z2 pr2) (kqP (fun v2 h2 => ?_)))
    show Pt _ _ _ 58 _ [.int v2] _ _
    exact pt_d (pt_iret gx60_58 ⟨_, rfl, by rw [h2]; exact H⟩)
  · have H := H.2 e1
    refine pt_d (pt_1 (fun n d => r_iloadn gx60_12 rfl) ?_)
    refine pt_d (pt_1 (fun n d => r_iloadn gx60_13 rfl) ?_)
    refine pt_d (pt_ishr gx60_14 z1 z3 (fun v3 h3 => ?_))
    refine pt_d (pt_iconst gx60_15 (fun v4 h4 => ?_))
    refine pt_d (pt_iand gx60_16 h3 h4 (fun v5 h5 => ?_))
    refine pt_d (pt_iconst gx60_17 (fun v6 h6 => ?_))
    refine pt_d (pt_icmp_ne gx60_18 h5 h6 (fun e7 => ?_) (fun e7 => ?_))
    · have H := H.1 e7
      refine pt_d (pt_iinc (c := 1) gx60_46 rfl z3 (fun v8 h8 => ?_))
      show Pt _ _ _ _ [some (.ref 48), some (.int x1), some (.int x2), some (.int v8)] [] _ _
      refine pt_d (pt_1 (fun n d => r_goto gx60_49) ?_)
      exact H v8 h8
    · have H := H.2 e7
      refine pt_d (pt_1 (fun n d => r_aloadn gx60_21 rfl) ?_)
      refine pt_d (pt_getR gx60_22 S tr_48_3 ?_)
      refine pt_d (pt_1 (fun n d => r_aloadn gx60_25 rfl) ?_)
      refine pt_d (pt_getI (B := 4) gx60_26 S (fun v10 h10 => ?_))
      refine pt_d (pt_1 (fun n d => r_aloadn gx60_29 rfl) ?_)
      refine pt_d (pt_getR gx60_30 S tr_48_5 ?_)
      refine pt_d (pt_1 (fun n d => r_iloadn gx60_33 rfl) ?_)
      refine pt_d (pt_iald (N' := 10) gx60_34 S tl_50 z3 (fun v12 p12 q12 h12 => ?_))
      have H := H p12 q12
      refine pt_d (pt_iast (N' := 10) gx60_35 S tl_49 h10 h12 (fun h_13 S13 p13 q13 e13 => ?_))
      have H := H p13 q13
      refine pt_d (pt_1 (fun n d => r_aloadn gx60_36 rfl) ?_)
      refine pt_d (pt_1 (fun n d => r_dup gx60_37 rfl) ?_)
      refine pt_d (pt_getI (B := 4) gx60_38 S13 (fun v14 h14 => ?_))
      have h14 : v14.toInt = vw h 48 4 := by rw [h14, e13, up_c (by decide)]
      refine pt_d (pt_iconst gx60_41 (fun v15 h15 => ?_))
      refine pt_d (pt_iadd gx60_42 h14 h15 (fun v16 h16 => ?_))
      refine pt_d (pt_putI (B := 4) gx60_43 S13 h16 (fun h_17 S17 e17 => ?_))
      refine pt_d (pt_iinc (c := 1) gx60_46 rfl z3 (fun v18 h18 => ?_))
      show Pt _ _ _ _ [some (.ref 48), some (.int x1), some (.int x2), some (.int v18)] [] _ _
      refine pt_d (pt_1 (fun n d => r_goto gx60_49) ?_)
      have H := H h_17 S17 (by rw [e17, e13])
      exact H v18 h18
theorem shl1 : ∀ m : Fin 11, bShl 1 (m.val : Int) = ((2 ^ m.val : Nat) : Int) := by decide +kernel
noncomputable def chF (V : vS) (m : Int) : Nat → Int
  | 0 => ((2 ^ m.toNat : Nat) : Int) - 1
  | s + 1 => @ite Int (endA V (s : Nat) m ∧ isL V (s : Nat) (chF V m s) m) (Classical.propDecidable _) (s : Nat) (chF V m s)
theorem chF_t {V : vS} {m : Int} {s : Nat} (h : endA V (s : Nat) m ∧ isL V (s : Nat) (chF V m s) m) : chF V m (s + 1) = (s : Nat) := if_pos h
theorem chF_f {V : vS} {m : Int} {s : Nat} (h : ¬ (endA V (s : Nat) m ∧ isL V (s : Nat) (chF V m s) m)) : chF V m (s + 1) = chF V m s := if_neg h
theorem p2_b {m : Int} (h : 0 ≤ m ∧ m ≤ 10) : 1 ≤ ((2 ^ m.toNat : Nat) : Int) ∧ ((2 ^ m.toNat : Nat) : Int) ≤ 1024 := by
  have a : ∀ k : Fin 11, 1 ≤ 2 ^ k.val ∧ 2 ^ k.val ≤ 1024 := by decide
  have := a ⟨m.toNat, by omega⟩
  have b : 1 ≤ 2 ^ m.toNat ∧ 2 ^ m.toNat ≤ 1024 := this
  generalize 2 ^ m.toNat = u at b ⊢
  omega
theorem chF_b {V : vS} {m : Int} (hm : 0 ≤ m ∧ m ≤ 10) : ∀ s : Nat, s ≤ 2 ^ m.toNat → 0 ≤ chF V m s ∧ chF V m s < ((2 ^ m.toNat : Nat) : Int)
  | 0, _ => by
    have := p2_b hm
    show 0 ≤ ((2 ^ m.toNat : Nat) : Int) - 1 ∧ ((2 ^ m.toNat : Nat) : Int) - 1 < ((2 ^ m.toNat : Nat) : Int)
    omega
  | s + 1, h => by
    have ih := chF_b (V := V) hm s (by omega)
    by_cases z : endA V (s : Nat) m ∧ isL V (s : Nat) (chF V m s) m
    · rw [chF_t z]
      generalize 2 ^ m.toNat = u at h
      omega
    · rw [chF_f z]
      exact ih
theorem l_56 {X : aX} {h : aH} {m : Int} (S : wS h) (hm : 0 ≤ m ∧ m ≤ 10) : ∀ (n : Nat) (x1 x2 x3 : Int32) (s : Nat), x1.toInt = m → x2.toInt = chF (vw h) m s → x3.toInt = (s : Int) → s ≤ 2 ^ m.toNat → Pt n X zM56 8 [some (.ref 48), some (.int x1), some (.int x2), some (.int x3)] [] h (qI (fun r h' => h' = h ∧ r = chF (vw h) m (2 ^ m.toNat))) := by
  intro n
  induction n with
  | zero => intros; exact pt_z
  | succ n ih =>
    intro x1 x2 x3 s h1 h2 h3 hs
    have e2 : bShl 1 m = ((2 ^ m.toNat : Nat) : Int) := by
      have := shl1 ⟨m.toNat, by omega⟩
      rw [show (((⟨m.toNat, by omega⟩ : Fin 11).val : Nat) : Int) = m by show ((m.toNat : Nat) : Int) = m; omega] at this
      exact this
    have pb := p2_b hm
    have cb := chF_b (V := vw h) hm s hs
    have skip : ¬ (endA (vw h) (s : Nat) m ∧ isL (vw h) (s : Nat) (chF (vw h) m s) m) → (s : Int) < ((2 ^ m.toNat : Nat) : Int) → ∀ w : Int32, w.toInt = w32 ((s : Int) + 1) → Pt n X zM56 8 [some (.ref 48), some (.int x1), some (.int x2), some (.int w)] [] h (qI (fun r h' => h' = h ∧ r = chF (vw h) m (2 ^ m.toNat))) := by
      intro z e w g
      replace g := w_1 g (by omega) (by omega)
      exact ih x1 x2 w (s + 1) h1 (by rw [chF_f z]; exact h2) (by omega) (by generalize 2 ^ m.toNat = u at e ⊢; omega)
    refine d56_8 S h1 h2 h3 ⟨fun e => ⟨rfl, ?_⟩, fun e => ⟨hm.2, fun z w g => skip (fun y => z y.1) (by rw [e2] at e; exact e) w g, fun z => ⟨⟨⟨by omega, cb.1⟩, hm.2⟩, fun z2 w g => skip (fun y => z2 y.2) (by rw [e2] at e; exact e) w g, fun z2 w g => ?_⟩⟩⟩
    · rw [e2] at e
      have : s = 2 ^ m.toNat := by
        generalize 2 ^ m.toNat = u at e hs ⊢
        omega
      rw [← this]
    · rw [e2] at e
      replace g := w_1 g (by omega) (by omega)
      exact ih x1 x3 w (s + 1) h1 (by rw [chF_t ⟨z, z2⟩]; exact h3) (by omega) (by generalize 2 ^ m.toNat = u at e ⊢; omega)
theorem c_56 {n : Nat} {X : aX} {h : aH} {x1 : Int32} {a1 : Int} (S : wS h) (z1 : x1.toInt = a1) (hm : 0 ≤ a1 ∧ a1 ≤ 10) : Pt n X zM56 0 [some (.ref 48), some (.int x1), none, none] [] h (qI (fun r h' => h' = h ∧ r = chF (vw h) a1 (2 ^ a1.toNat))) := by
  have e2 : bShl 1 a1 = ((2 ^ a1.toNat : Nat) : Int) := by
    have := shl1 ⟨a1.toNat, by omega⟩
    rw [show (((⟨a1.toNat, by omega⟩ : Fin 11).val : Nat) : Int) = a1 by show ((a1.toNat : Nat) : Int) = a1; omega] at this
    exact this
  have pb := p2_b hm
  refine pt_d (d56_0 S z1 (fun w2 w3 g2 g3 => l_56 S hm n x1 w2 w3 0 z1 ?_ g3 (Nat.zero_le _)))
  rw [g2, e2, w32_id (by omega) (by omega)]
  rfl
def sBt (s : Int) (i : Int) : Prop := bAnd (bShr s i) 1 = 1
def R60 (V : vS) (s m r : Int) (W : vS) : Prop := (r = arN V s m.toNat) ∧ ((∀ (c : Nat) j, c ≠ 48 → c ≠ 49 → W c j = V c j) ∧ ∀ j, j ≠ 4 → W 48 j = V 48 j) ∧ W 48 4 = nQ (sBt s) m.toNat ∧ ∀ i : Nat, (i : Int) < m → sBt s (i : Nat) → W 49 (nQ (sBt s) i) = V 50 (i : Nat)
theorem nQ_le {R : Int → Prop} {i : Nat} : ∀ k : Nat, i ≤ k → nQ R i ≤ nQ R k
  | 0, h => by rw [show i = 0 by omega]; exact Int.le_refl _
  | k + 1, h => by
    by_cases z : i = k + 1
    · rw [z]; exact Int.le_refl _
    · have ih := nQ_le (R := R) k (show i ≤ k by omega)
      by_cases r : R (k : Nat)
      · rw [nQ_t r]; omega
      · rw [nQ_f r]; omega
theorem nQ_lt {R : Int → Prop} {i k : Nat} (h : i < k) (r : R (i : Nat)) : nQ R i < nQ R k := by
  have := nQ_le (R := R) k (show i + 1 ≤ k from h)
  rw [nQ_t r] at this
  omega
theorem l_60 {X : aX} {V : vS} {s m : Int} (hm : 0 ≤ m ∧ m ≤ 10) : ∀ (n : Nat) (h : aH) (x1 x2 x3 : Int32) (k : Nat), wS h → x1.toInt = s → x2.toInt = m → x3.toInt = (k : Int) → (k : Int) ≤ m → (((∀ (c : Nat) j, c ≠ 48 → c ≠ 49 → vw h c j = V c j) ∧ ∀ j, j ≠ 4 → vw h 48 j = V 48 j) ∧ vw h 48 4 = nQ (sBt s) k ∧ ∀ i : Nat, i < k → sBt s (i : Nat) → vw h 49 (nQ (sBt s) i) = V 50 (i : Nat)) → Pt n X zM60 7 [some (.ref 48), some (.int x1), some (.int x2), some (.int x3)] [] h (qI (fun r h' => wS h' ∧ R60 V s m r (vw h'))) := by
  intro n
  induction n with
  | zero => intros; exact pt_z
  | succ n ih =>
    intro h x1 x2 x3 k S h1 h2 h3 hk F
    have F0 := F
    obtain ⟨⟨f1, f2⟩, f4, f5⟩ := F0
    have b := nQ_b (sBt s) k
    have ar : ∀ i, arN (vw h) s i = arN V s i := fun i => by
      induction i with
      | zero => rfl
      | succ i ih2 =>
        have e : ∀ V : vS, arN V s (i + 1) = w32 (arN V s i + w32 (bAnd (bShr s (i : Nat)) 1 * V 3 (V 50 (i : Nat)))) := fun _ => rfl
        rw [e, e, ih2, f1 50 _ (by decide) (by decide), f1 3 _ (by decide) (by decide)]
    refine d60_7 S h1 h2 h3 ⟨fun e => ⟨hm.2, S, ?_, ⟨f1, f2⟩, ?_, fun i hi r => f5 i (by omega) r⟩, fun e => ⟨fun z w g => ?_, fun z _ _ _ _ g S2 eg w g3 => ?_⟩⟩
    · rw [ar]
    · rw [f4, show m.toNat = k by omega]
    · replace g := w_1 g (by omega) (by omega)
      refine ih h x1 x2 w (k + 1) S h1 h2 (by omega) (by omega) ⟨⟨f1, f2⟩, ?_, fun i hi r => ?_⟩
      · rw [nQ_f (show ¬ sBt s (k : Nat) from z), Int.add_zero]
        exact f4
      · by_cases y : i = k
        · rw [y] at r
          exact absurd r z
        · exact f5 i (by omega) r
    · replace g3 := w_1 g3 (by omega) (by omega)
      refine ih g x1 x2 w (k + 1) S2 h1 h2 (by omega) (by omega) ⟨⟨fun c j a d => ?_, fun j a => ?_⟩, ?_, fun i hi r => ?_⟩
      · rw [eg, up_c a, up_c d]
        exact f1 c j a d
      · rw [eg, up_j a, up_c (by decide)]
        exact f2 j a
      · rw [eg, up_s, f4, nQ_t (show sBt s (k : Nat) from z), w32_id (by omega) (by omega)]
      · rw [eg, up_c (by decide), up_p, f4]
        by_cases y : i = k
        · rw [y, if_pos rfl]
          exact f1 50 _ (by decide) (by decide)
        · have lt := nQ_lt (R := sBt s) (show i < k by omega) r
          rw [if_neg (by omega)]
          exact f5 i (by omega) r
theorem c_60 {n : Nat} {X : aX} {h : aH} {x1 x2 : Int32} {a1 a2 : Int} (S : wS h) (z1 : x1.toInt = a1) (z2 : x2.toInt = a2) (hm : 0 ≤ a2 ∧ a2 ≤ 10) : Pt n X zM60 0 [some (.ref 48), some (.int x1), some (.int x2), none] [] h (qI (fun r h' => wS h' ∧ R60 (vw h) a1 a2 r (vw h'))) := by
  refine pt_d (d60_0 S z1 z2 (fun g S2 eg w g3 => l_60 (V := vw h) hm n g x1 x2 w 0 S2 z1 z2 g3 hm.1 ⟨⟨fun c j a _ => by rw [eg, up_c a], fun j a => by rw [eg, up_j a]⟩, by rw [eg, up_s]; rfl, fun i hi => absurd hi (Nat.not_lt_zero _)⟩))


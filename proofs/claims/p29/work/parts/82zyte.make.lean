-- ===== seasons: the class makes =====
theorem d31_0 {n : Nat} {X : aX} {h : aH} {P : Int → aH → Prop} {x1 : Int32} {a1 : Int} (S : wS h) (z1 : x1.toInt = a1) (H : (0 ≤ a1 → a1 < 300 → (0 ≤ vw h 17 a1 → vw h 17 a1 < 150 → ((¬ (0 ≤ (vw h 3 (vw h 17 a1)) ∧ (vw h 3 (vw h 17 a1)) ≤ 3) → P 0 h) ∧ ((0 ≤ (vw h 3 (vw h 17 a1)) ∧ (vw h 3 (vw h 17 a1)) ≤ 3) → (0 ≤ vw h 3 (vw h 17 a1) → vw h 3 (vw h 17 a1) < 4 → P (max 0 (w32 ((iRem (vw h 20 a1) 365) - (vw h 22 (vw h 3 (vw h 17 a1)))))) h)))))) : Pt (n + 1) X zM31 0 [some (.ref 16), some (.int x1), none] [] h (qI P) := by
  refine pt_1 (fun n d => r_aloadn gx31_0 rfl) ?_
  refine pt_d (pt_getR gx31_1 S tr_16_0 ?_)
  refine pt_d (pt_getR gx31_4 S tr_1_8 ?_)
  refine pt_d (pt_1 (fun n d => r_aloadn gx31_7 rfl) ?_)
  refine pt_d (pt_getR gx31_8 S tr_16_4 ?_)
  refine pt_d (pt_1 (fun n d => r_iloadn gx31_11 rfl) ?_)
  refine pt_d (pt_iald (N' := 300) gx31_12 S tl_17 z1 (fun v4 p4 q4 h4 => ?_))
  have H := H p4 q4
  refine pt_d (pt_iald (N' := 150) gx31_13 S tl_3 h4 (fun v5 p5 q5 h5 => ?_))
  have H := H p5 q5
  refine pt_d (pt_1 (fun n d => r_istoren (L' := [some (.ref 16), some (.int x1), some (.int v5)]) gx31_14 rfl rfl) ?_)
  refine pt_d (pt_1 (fun n d => r_iloadn gx31_15 rfl) ?_)
  refine pt_d (pt_stat (as := [.int v5]) (r := []) gx31_16 rfl (show zmt[140]? = some zM140 from rfl) rfl rfl rfl rfl (c_140 S h5) (kqP (fun v6 h6 => ?_)))
  show Pt _ _ _ 19 _ [.int v6] _ _
  refine pt_d (pt_ifB_eq gx31_19 h6 (fun e7 => ?_) (fun e7 => ?_))
  · have H := H.1 e7
    refine pt_d (pt_iconst gx31_46 (fun v8 h8 => ?_))
    exact pt_d (pt_iret gx31_47 ⟨_, rfl, by rw [h8]; exact H⟩)
  · have H := H.2 e7
    refine pt_d (pt_iconst gx31_22 (fun v9 h9 => ?_))
    refine pt_d (pt_1 (fun n d => r_aloadn gx31_23 rfl) ?_)
    refine pt_d (pt_getR gx31_24 S tr_16_7 ?_)
    refine pt_d (pt_1 (fun n d => r_iloadn gx31_27 rfl) ?_)
    refine pt_d (pt_iald (N' := 300) gx31_28 S tl_20 z1 (fun v11 p11 q11 h11 => ?_))
    refine pt_d (pt_sipush gx31_29 (fun v12 h12 => ?_))
    refine pt_d (pt_irem gx31_32 h11 h12 (fun v13 h13 => ?_))
    refine pt_d (pt_1 (fun n d => r_aloadn gx31_33 rfl) ?_)
    refine pt_d (pt_getR gx31_34 S tr_16_9 ?_)
    refine pt_d (pt_1 (fun n d => r_iloadn gx31_37 rfl) ?_)
    refine pt_d (pt_iald (N' := 4) gx31_38 S tl_22 h5 (fun v15 p15 q15 h15 => ?_))
    have H := H p15 q15
    refine pt_d (pt_isub gx31_39 h13 h15 (fun v16 h16 => ?_))
    refine pt_d (pt_max gx31_40 rfl h9 h16 (fun v17 h17 => ?_))
    refine pt_d (pt_1 (fun n d => r_goto gx31_43) ?_)
    exact pt_d (pt_iret gx31_47 ⟨_, rfl, by rw [h17]; exact H⟩)
theorem d83_0 {n : Nat} {X : aX} {h : aH} {P : Int → aH → Prop} {x1 : Int32} {a1 : Int} {q2 : Nat} (S : wS h) (z1 : x1.toInt = a1) (H : (∀ (w3 : Int32) (w4 : Int32), w3.toInt = 0 → w4.toInt = 0 → Pt n X zM83 5 [some (.ref 1), some (.int x1), some (.ref q2), some (.int w3), some (.int w4)] [] h (qI P))) : Pt (n + 1) X zM83 0 [some (.ref 1), some (.int x1), some (.ref q2), none, none] [] h (qI P) := by
  refine pt_iconst gx83_0 (fun v1 h1 => ?_)
  refine pt_d (pt_1 (fun n d => r_istoren (L' := [some (.ref 1), some (.int x1), some (.ref q2), some (.int v1), none]) gx83_1 rfl rfl) ?_)
  refine pt_d (pt_iconst gx83_2 (fun v2 h2 => ?_))
  refine pt_d (pt_1 (fun n d => r_istore (L' := [some (.ref 1), some (.int x1), some (.ref q2), some (.int v1), some (.int v2)]) gx83_3 rfl rfl) ?_)
  exact H v1 v2 h1 h2
theorem d83_5 {n : Nat} {X : aX} {h : aH} {P : Int → aH → Prop} {x1 x3 x4 : Int32} {a1 a3 a4 : Int} {q2 : Nat} (S : wS h) (z1 : x1.toInt = a1) (z3 : x3.toInt = a3) (z4 : x4.toInt = a4) (H : ((24 ≤ a4 → P a3 h) ∧ (a4 < 24 → (((0 ≤ a1 ∧ a1 < 150) ∧ 0 ≤ a4 ∧ a4 < 24) ∧ (0 ≤ a4 → (((0 : Int) ≤ (bAnd ((vw h) 8 (24 * a1 + a4)) (vw h q2 a4))) ∧ (∀ (w3 : Int32) (w4 : Int32), w3.toInt = w32 (a3 + (bcn (tb (bAnd ((vw h) 8 (24 * a1 + a4)) (vw h q2 a4))) 32)) → w4.toInt = w32 (a4 + 1) → Pt n X zM83 5 [some (.ref 1), some (.int x1), some (.ref q2), some (.int w3), some (.int w4)] [] h (qI P)))))))) : Pt (n + 1) X zM83 5 [some (.ref 1), some (.int x1), some (.ref q2), some (.int x3), some (.int x4)] [] h (qI P) := by
  refine pt_1 (fun n d => r_iload gx83_5 rfl) ?_
  refine pt_d (pt_bipush gx83_7 (fun v1 h1 => ?_))
  refine pt_d (pt_icmp_ge gx83_9 z4 h1 (fun e2 => ?_) (fun e2 => ?_))
  · have H := H.1 e2
    refine pt_d (pt_1 (fun n d => r_iloadn gx83_36 rfl) ?_)
    exact pt_d (pt_iret gx83_37 ⟨_, rfl, by rw [z3]; exact H⟩)
  · have H := H.2 e2
    refine pt_d (pt_1 (fun n d => r_iloadn gx83_12 rfl) ?_)
    refine pt_d (pt_1 (fun n d => r_aloadn gx83_13 rfl) ?_)
    refine pt_d (pt_1 (fun n d => r_iloadn gx83_14 rfl) ?_)
    refine pt_d (pt_1 (fun n d => r_iload gx83_15 rfl) ?_)
    obtain ⟨pr3, H⟩ := H
    refine pt_d (pt_virt (as := [.int x1, .int x4]) (r := [.int x3]) gx83_17 rfl (show zmt[82]? = some zM82 from rfl) rfl rfl rfl rfl (k_82 S z1 z4 pr3) (kqP (fun v3 h3 => ?_)))
    show Pt _ _ _ 20 _ [.int v3, .int x3] _ _
    refine pt_d (pt_1 (fun n d => r_aloadn gx83_20 rfl) ?_)
    refine pt_d (pt_1 (fun n d => r_iload gx83_21 rfl) ?_)
    refine pt_d (pt_ialdD gx83_23 z4 (fun v4 p4 h4 => ?_))
    have H := H p4
    refine pt_d (pt_iand gx83_24 h3 h4 (fun v5 h5 => ?_))
    obtain ⟨pr6, H⟩ := H
    refine pt_d (pt_stat (as := [.int v5]) (r := [.int x3]) gx83_25 rfl (show zmt[329]? = some zM329 from rfl) rfl rfl rfl rfl (c_329 S h5 pr6) (kqP (fun v6 h6 => ?_)))
    show Pt _ _ _ 28 _ [.int v6, .int x3] _ _
    refine pt_d (pt_iadd gx83_28 z3 h6 (fun v7 h7 => ?_))
    refine pt_d (pt_1 (fun n d => r_istoren (L' := [some (.ref 1), some (.int x1), some (.ref q2), some (.int v7), some (.int x4)]) gx83_29 rfl rfl) ?_)
    refine pt_d (pt_iinc (c := 1) gx83_30 rfl z4 (fun v8 h8 => ?_))
    show Pt _ _ _ _ [some (.ref 1), some (.int x1), some (.ref q2), some (.int v7), some (.int v8)] [] _ _
    refine pt_d (pt_1 (fun n d => r_goto gx83_33) ?_)
    exact H v7 v8 h7 h8
noncomputable def lt1 (V : vS) (c : Int) : Int := @ite Int (0 ≤ V 3 (V 17 c) ∧ V 3 (V 17 c) ≤ 3) (Classical.propDecidable _) (max 0 (w32 (iRem (V 20 c) 365 - V 22 (V 3 (V 17 c))))) 0
theorem c_31 {n : Nat} {X : aX} {h : aH} {x1 : Int32} {a1 : Int} (S : wS h) (z1 : x1.toInt = a1) : Pt n X zM31 0 [some (.ref 16), some (.int x1), none] [] h (qI (fun y h' => h' = h ∧ y = lt1 (vw h) a1)) :=
  pt_d (d31_0 S z1 (fun _ _ _ _ => ⟨fun e => ⟨rfl, (@if_neg _ (Classical.propDecidable _) e _ _ _).symm⟩, fun e _ _ => ⟨rfl, (@if_pos _ (Classical.propDecidable _) e _ _ _).symm⟩⟩))
def R34 (V : vS) (f b y m r : Int) (W : vS) : Prop := (200 ≤ V 16 3 ∧ r = V 16 3 ∧ W = V) ∨ (V 16 3 < 200 ∧ r = w32 (V 16 3 + 1) ∧ W = up (up (up (up (up (up V 27 (V 16 3) f) 28 (V 16 3) b) 29 (V 16 3) y) 30 (V 16 3) m) 31 (V 16 3) (V 1 0)) 16 3 (w32 (V 16 3 + 1)))
theorem c_34 {n : Nat} {X : aX} {h : aH} {x1 x2 x3 x4 : Int32} {a1 a2 a3 a4 : Int} (S : wS h) (z1 : x1.toInt = a1) (z2 : x2.toInt = a2) (z3 : x3.toInt = a3) (z4 : x4.toInt = a4) : Pt n X zM34 0 [some (.ref 16), some (.int x1), some (.int x2), some (.int x3), some (.int x4)] [] h (qI (fun y h' => wS h' ∧ R34 (vw h) a1 a2 a3 a4 y (vw h'))) :=
  pt_d (d34_0 S z1 z2 z3 z4 ⟨fun e => ⟨S, Or.inl ⟨e, rfl, rfl⟩⟩, fun e _ _ g S2 eg => ⟨S2, Or.inr ⟨e, rfl, eg⟩⟩⟩)
def sqA (V : vS) (b : Int) (r : Nat) : Nat → Int
  | 0 => 0
  | y + 1 => sqA V b r y + bcn (tb (bAnd (V 8 (24 * b + (y : Nat))) (V r (y : Nat)))) 32
theorem sqA_s (V : vS) (b : Int) (r y : Nat) : sqA V b r (y + 1) = sqA V b r y + bcn (tb (bAnd (V 8 (24 * b + (y : Nat))) (V r (y : Nat)))) 32 := rfl
theorem sqA_b (V : vS) (b : Int) (r : Nat) : ∀ y : Nat, 0 ≤ sqA V b r y ∧ sqA V b r y ≤ 32 * (y : Int)
  | 0 => ⟨Int.le_refl _, Int.le_refl _⟩
  | y + 1 => by
    have a := sqA_b V b r y
    have d := bcn_b (tb (bAnd (V 8 (24 * b + (y : Nat))) (V r (y : Nat)))) 32
    rw [sqA_s]
    omega
theorem l_83 {X : aX} {h : aH} {b : Int} {q2 : Nat} (S : wS h) (hb : 0 ≤ b ∧ b < 150) (h8 : ∀ j, 0 ≤ vw h 8 j ∧ vw h 8 j < 2147483648) : ∀ (n : Nat) (x1 x3 x4 : Int32) (y : Nat), x1.toInt = b → x3.toInt = sqA (vw h) b q2 y → x4.toInt = (y : Int) → y ≤ 24 → Pt n X zM83 5 [some (.ref 1), some (.int x1), some (.ref q2), some (.int x3), some (.int x4)] [] h (qI (fun r h' => h' = h ∧ r = sqA (vw h) b q2 24)) := by
  intro n
  induction n with
  | zero => exact fun _ _ _ _ _ _ _ _ => pt_z
  | succ n ih =>
    intro x1 x3 x4 y h1 h3 h4 hy
    refine d83_5 S h1 h3 h4 ⟨fun e => ⟨rfl, ?_⟩, fun e => ⟨⟨hb, by omega, e⟩, fun _ => ⟨(bAnd_nn (h8 _).1 (h8 _).2).1, fun w3 w4 g3 g4 => ?_⟩⟩⟩
    · rw [show y = 24 by omega]
    · have a := sqA_b (vw h) b q2 y
      have d := bcn_b (tb (bAnd (vw h 8 (24 * b + (y : Nat))) (vw h q2 (y : Nat)))) 32
      replace g4 := w_1 g4 (by omega) (by omega)
      rw [w32_id (by omega) (by omega)] at g3
      exact ih x1 w3 w4 (y + 1) h1 (by rw [g3, sqA_s]) (by omega) (by omega)
theorem c_83 {n : Nat} {X : aX} {h : aH} {x1 : Int32} {a1 : Int} {q2 : Nat} (S : wS h) (z1 : x1.toInt = a1) (hp : (0 ≤ a1 ∧ a1 < 150) ∧ ∀ j, 0 ≤ vw h 8 j ∧ vw h 8 j < 2147483648) : Pt n X zM83 0 [some (.ref 1), some (.int x1), some (.ref q2), none, none] [] h (qI (fun y h' => h' = h ∧ y = sqA (vw h) a1 q2 24)) :=
  pt_d (d83_0 S z1 (fun w3 w4 g3 g4 => l_83 S hp.1 hp.2 n x1 w3 w4 0 z1 g3 g4 (by decide)))


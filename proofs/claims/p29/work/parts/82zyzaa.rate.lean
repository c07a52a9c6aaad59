-- ===== the rate of errors =====
theorem d36_0 {n : Nat} {X : aX} {h : aH} {P : Int → aH → Prop} {x1 x2 : Int32} {a1 a2 : Int} (S : wS h) (z1 : x1.toInt = a1) (z2 : x2.toInt = a2) (H : (∀ (w3 : Int32), w3.toInt = 0 → Pt n X zM36 2 [some (.ref 16), some (.int x1), some (.int x2), some (.int w3)] [] h (qI P))) : Pt (n + 1) X zM36 0 [some (.ref 16), some (.int x1), some (.int x2), none] [] h (qI P) := by
  refine pt_iconst gx36_0 (fun v1 h1 => ?_)
  refine pt_d (pt_1 (fun n d => r_istoren (L' := [some (.ref 16), some (.int x1), some (.int x2), some (.int v1)]) gx36_1 rfl rfl) ?_)
  exact H v1 h1
theorem d36_2 {n : Nat} {X : aX} {h : aH} {P : Int → aH → Prop} {x1 x2 x3 : Int32} {a1 a2 a3 : Int} (S : wS h) (z1 : x1.toInt = a1) (z2 : x2.toInt = a2) (z3 : x3.toInt = a3) (H : ((vw h 16 3 ≤ a3 → P 0 h) ∧ (a3 < vw h 16 3 → (0 ≤ a3 → a3 < 200 → ((vw h 27 a3 ≠ a1 → (∀ (w3 : Int32), w3.toInt = w32 (a3 + 1) → Pt n X zM36 2 [some (.ref 16), some (.int x1), some (.int x2), some (.int w3)] [] h (qI P))) ∧ (vw h 27 a3 = a1 → ((vw h 29 a3 ≠ a2 → (∀ (w3 : Int32), w3.toInt = w32 (a3 + 1) → Pt n X zM36 2 [some (.ref 16), some (.int x1), some (.int x2), some (.int w3)] [] h (qI P))) ∧ (vw h 29 a3 = a2 → P 1 h)))))))) : Pt (n + 1) X zM36 2 [some (.ref 16), some (.int x1), some (.int x2), some (.int x3)] [] h (qI P) := by
  refine pt_1 (fun n d => r_iloadn gx36_2 rfl) ?_
  refine pt_d (pt_1 (fun n d => r_aloadn gx36_3 rfl) ?_)
  refine pt_d (pt_getI (B := 3) gx36_4 S (fun v1 h1 => ?_))
  refine pt_d (pt_icmp_ge gx36_7 z3 h1 (fun e2 => ?_) (fun e2 => ?_))
  · have H := H.1 e2
    refine pt_d (pt_iconst gx36_38 (fun v3 h3 => ?_))
    exact pt_d (pt_iret gx36_39 ⟨_, rfl, by rw [h3]; exact H⟩)
  · have H := H.2 e2
    refine pt_d (pt_1 (fun n d => r_aloadn gx36_10 rfl) ?_)
    refine pt_d (pt_getR gx36_11 S tr_16_14 ?_)
    refine pt_d (pt_1 (fun n d => r_iloadn gx36_14 rfl) ?_)
    refine pt_d (pt_iald (N' := 200) gx36_15 S tl_27 z3 (fun v5 p5 q5 h5 => ?_))
    have H := H p5 q5
    refine pt_d (pt_1 (fun n d => r_iloadn gx36_16 rfl) ?_)
    refine pt_d (pt_icmp_ne gx36_17 h5 z1 (fun e6 => ?_) (fun e6 => ?_))
    · have H := H.1 e6
      refine pt_d (pt_iinc (c := 1) gx36_32 rfl z3 (fun v7 h7 => ?_))
      show Pt _ _ _ _ [some (.ref 16), some (.int x1), some (.int x2), some (.int v7)] [] _ _
      refine pt_d (pt_1 (fun n d => r_goto gx36_35) ?_)
      exact H v7 h7
    · have H := H.2 e6
      refine pt_d (pt_1 (fun n d => r_aloadn gx36_20 rfl) ?_)
      refine pt_d (pt_getR gx36_21 S tr_16_16 ?_)
      refine pt_d (pt_1 (fun n d => r_iloadn gx36_24 rfl) ?_)
      refine pt_d (pt_iald (N' := 200) gx36_25 S tl_29 z3 (fun v9 p9 q9 h9 => ?_))
      refine pt_d (pt_1 (fun n d => r_iloadn gx36_26 rfl) ?_)
      refine pt_d (pt_icmp_ne gx36_27 h9 z2 (fun e10 => ?_) (fun e10 => ?_))
      · have H := H.1 e10
        refine pt_d (pt_iinc (c := 1) gx36_32 rfl z3 (fun v11 h11 => ?_))
        show Pt _ _ _ _ [some (.ref 16), some (.int x1), some (.int x2), some (.int v11)] [] _ _
        refine pt_d (pt_1 (fun n d => r_goto gx36_35) ?_)
        exact H v11 h11
      · have H := H.2 e10
        refine pt_d (pt_iconst gx36_30 (fun v12 h12 => ?_))
        exact pt_d (pt_iret gx36_31 ⟨_, rfl, by rw [h12]; exact H⟩)
theorem l_36 {X : aX} {h : aH} {f y : Int} (S : wS h) (hN : 0 ≤ vw h 16 3 ∧ vw h 16 3 ≤ 200) : ∀ (n : Nat) (x1 x2 x3 : Int32) (k : Int), x1.toInt = f → x2.toInt = y → x3.toInt = k → 0 ≤ k → k ≤ vw h 16 3 → (∀ c, 0 ≤ c → c < k → ¬ ((vw h 27 c = f ∧ vw h 29 c = y))) → Pt n X zM36 2 [some (.ref 16), some (.int x1), some (.int x2), some (.int x3)] [] h (qI (fun r h' => h' = h ∧ r = bI (∃ c, (0 ≤ c ∧ c < vw h 16 3) ∧ (vw h 27 c = f ∧ vw h 29 c = y)))) := by
  intro n
  induction n with
  | zero => intros; exact pt_z
  | succ n ih =>
    intro x1 x2 x3 k h1 h2 hk k0 kN no
    have next : ¬ ((vw h 27 k = f ∧ vw h 29 k = y)) → k < vw h 16 3 → ∀ w : Int32, w.toInt = w32 (k + 1) → Pt n X zM36 2 [some (.ref 16), some (.int x1), some (.int x2), some (.int w)] [] h (qI (fun r h' => h' = h ∧ r = bI (∃ c, (0 ≤ c ∧ c < vw h 16 3) ∧ (vw h 27 c = f ∧ vw h 29 c = y)))) := by
      intro z e w g
      replace g := w_1 g (by omega) (by omega)
      refine ih x1 x2 w (k + 1) h1 h2 g (by omega) (by omega) (fun c c0 ck => ?_)
      by_cases q : c = k
      · rw [q]
        exact z
      · exact no c c0 (by omega)
    refine d36_2 S h1 h2 hk ⟨fun e => ⟨rfl, (bI_f (fun ⟨c, m, z⟩ => no c m.1 (by omega) z)).symm⟩, fun e p q => ⟨fun z0 w g => next (fun q => z0 (q.1)) e w g, fun z0 => ⟨fun z1 w g => next (fun q => z1 (q.2)) e w g, fun z1 => ⟨rfl, (bI_t ⟨k, ⟨k0, e⟩, z0, z1⟩).symm⟩⟩⟩⟩
theorem c_36 {n : Nat} {X : aX} {h : aH} {x1 x2 : Int32} {a1 a2 : Int} (S : wS h) (z1 : x1.toInt = a1) (z2 : x2.toInt = a2) (hN : 0 ≤ vw h 16 3 ∧ vw h 16 3 ≤ 200) : Pt n X zM36 0 [some (.ref 16), some (.int x1), some (.int x2), none] [] h (qI (fun r h' => h' = h ∧ r = bI (∃ c, (0 ≤ c ∧ c < vw h 16 3) ∧ (vw h 27 c = a1 ∧ vw h 29 c = a2)))) :=
  pt_d (d36_0 S z1 z2 (fun w g => l_36 S hN n x1 x2 w 0 z1 z2 g (Int.le_refl _) hN.1 (fun c a b => by omega)))
theorem d295_0 {n : Nat} {X : aX} {h : aH} {P : Int → aH → Prop} {x1 x2 : Int32} {a1 a2 : Int} (S : wS h) (z1 : x1.toInt = a1) (z2 : x2.toInt = a2) (H : (∀ (w3 : Int32), w3.toInt = 0 → Pt n X zM295 2 [some (.ref 72), some (.int x1), some (.int x2), some (.int w3)] [] h (qI P))) : Pt (n + 1) X zM295 0 [some (.ref 72), some (.int x1), some (.int x2), none] [] h (qI P) := by
  refine pt_iconst gx295_0 (fun v1 h1 => ?_)
  refine pt_d (pt_1 (fun n d => r_istoren (L' := [some (.ref 72), some (.int x1), some (.int x2), some (.int v1)]) gx295_1 rfl rfl) ?_)
  exact H v1 h1
theorem d295_2 {n : Nat} {X : aX} {h : aH} {P : Int → aH → Prop} {x1 x2 x3 : Int32} {a1 a2 a3 : Int} (S : wS h) (z1 : x1.toInt = a1) (z2 : x2.toInt = a2) (z3 : x3.toInt = a3) (H : ((vw h 72 32 ≤ a3 → P 0 h) ∧ (a3 < vw h 72 32 → (0 ≤ a3 → a3 < 200 → ((vw h 98 a3 ≠ a1 → (∀ (w3 : Int32), w3.toInt = w32 (a3 + 1) → Pt n X zM295 2 [some (.ref 72), some (.int x1), some (.int x2), some (.int w3)] [] h (qI P))) ∧ (vw h 98 a3 = a1 → ((vw h 100 a3 ≠ a2 → (∀ (w3 : Int32), w3.toInt = w32 (a3 + 1) → Pt n X zM295 2 [some (.ref 72), some (.int x1), some (.int x2), some (.int w3)] [] h (qI P))) ∧ (vw h 100 a3 = a2 → P 1 h)))))))) : Pt (n + 1) X zM295 2 [some (.ref 72), some (.int x1), some (.int x2), some (.int x3)] [] h (qI P) := by
  refine pt_1 (fun n d => r_iloadn gx295_2 rfl) ?_
  refine pt_d (pt_1 (fun n d => r_aloadn gx295_3 rfl) ?_)
  refine pt_d (pt_getI (B := 32) gx295_4 S (fun v1 h1 => ?_))
  refine pt_d (pt_icmp_ge gx295_7 z3 h1 (fun e2 => ?_) (fun e2 => ?_))
  · have H := H.1 e2
    refine pt_d (pt_iconst gx295_38 (fun v3 h3 => ?_))
    exact pt_d (pt_iret gx295_39 ⟨_, rfl, by rw [h3]; exact H⟩)
  · have H := H.2 e2
    refine pt_d (pt_1 (fun n d => r_aloadn gx295_10 rfl) ?_)
    refine pt_d (pt_getR gx295_11 S tr_72_33 ?_)
    refine pt_d (pt_1 (fun n d => r_iloadn gx295_14 rfl) ?_)
    refine pt_d (pt_iald (N' := 200) gx295_15 S tl_98 z3 (fun v5 p5 q5 h5 => ?_))
    have H := H p5 q5
    refine pt_d (pt_1 (fun n d => r_iloadn gx295_16 rfl) ?_)
    refine pt_d (pt_icmp_ne gx295_17 h5 z1 (fun e6 => ?_) (fun e6 => ?_))
    · have H := H.1 e6
      refine pt_d (pt_iinc (c := 1) gx295_32 rfl z3 (fun v7 h7 => ?_))
      show Pt _ _ _ _ [some (.ref 72), some (.int x1), some (.int x2), some (.int v7)] [] _ _
      refine pt_d (pt_1 (fun n d => r_goto gx295_35) ?_)
      exact H v7 h7
    · have H := H.2 e6
      refine pt_d (pt_1 (fun n d => r_aloadn gx295_20 rfl) ?_)
      refine pt_d (pt_getR gx295_21 S tr_72_35 ?_)
      refine pt_d (pt_1 (fun n d => r_iloadn gx295_24 rfl) ?_)
      refine pt_d (pt_iald (N' := 200) gx295_25 S tl_100 z3 (fun v9 p9 q9 h9 => ?_))
      refine pt_d (pt_1 (fun n d => r_iloadn gx295_26 rfl) ?_)
      refine pt_d (pt_icmp_ne gx295_27 h9 z2 (fun e10 => ?_) (fun e10 => ?_))
      · have H := H.1 e10
        refine pt_d (pt_iinc (c := 1) gx295_32 rfl z3 (fun v11 h11 => ?_))
        show Pt _ _ _ _ [some (.ref 72), some (.int x1), some (.int x2), some (.int v11)] [] _ _
        refine pt_d (pt_1 (fun n d => r_goto gx295_35) ?_)
        exact H v11 h11
      · have H := H.2 e10
        refine pt_d (pt_iconst gx295_30 (fun v12 h12 => ?_))
        exact pt_d (pt_iret gx295_31 ⟨_, rfl, by rw [h12]; exact H⟩)
theorem l_295 {X : aX} {h : aH} {f y : Int} (S : wS h) (hN : 0 ≤ vw h 72 32 ∧ vw h 72 32 ≤ 200) : ∀ (n : Nat) (x1 x2 x3 : Int32) (k : Int), x1.toInt = f → x2.toInt = y → x3.toInt = k → 0 ≤ k → k ≤ vw h 72 32 → (∀ c, 0 ≤ c → c < k → ¬ ((vw h 98 c = f ∧ vw h 100 c = y))) → Pt n X zM295 2 [some (.ref 72), some (.int x1), some (.int x2), some (.int x3)] [] h (qI (fun r h' => h' = h ∧ r = bI (∃ c, (0 ≤ c ∧ c < vw h 72 32) ∧ (vw h 98 c = f ∧ vw h 100 c = y)))) := by
  intro n
  induction n with
  | zero => intros; exact pt_z
  | succ n ih =>
    intro x1 x2 x3 k h1 h2 hk k0 kN no
    have next : ¬ ((vw h 98 k = f ∧ vw h 100 k = y)) → k < vw h 72 32 → ∀ w : Int32, w.toInt = w32 (k + 1) → Pt n X zM295 2 [some (.ref 72), some (.int x1), some (.int x2), some (.int w)] [] h (qI (fun r h' => h' = h ∧ r = bI (∃ c, (0 ≤ c ∧ c < vw h 72 32) ∧ (vw h 98 c = f ∧ vw h 100 c = y)))) := by
      intro z e w g
      replace g := w_1 g (by omega) (by omega)
      refine ih x1 x2 w (k + 1) h1 h2 g (by omega) (by omega) (fun c c0 ck => ?_)
      by_cases q : c = k
      · rw [q]
        exact z
      · exact no c c0 (by omega)
    refine d295_2 S h1 h2 hk ⟨fun e => ⟨rfl, (bI_f (fun ⟨c, m, z⟩ => no c m.1 (by omega) z)).symm⟩, fun e p q => ⟨fun z0 w g => next (fun q => z0 (q.1)) e w g, fun z0 => ⟨fun z1 w g => next (fun q => z1 (q.2)) e w g, fun z1 => ⟨rfl, (bI_t ⟨k, ⟨k0, e⟩, z0, z1⟩).symm⟩⟩⟩⟩
theorem c_295 {n : Nat} {X : aX} {h : aH} {x1 x2 : Int32} {a1 a2 : Int} (S : wS h) (z1 : x1.toInt = a1) (z2 : x2.toInt = a2) (hN : 0 ≤ vw h 72 32 ∧ vw h 72 32 ≤ 200) : Pt n X zM295 0 [some (.ref 72), some (.int x1), some (.int x2), none] [] h (qI (fun r h' => h' = h ∧ r = bI (∃ c, (0 ≤ c ∧ c < vw h 72 32) ∧ (vw h 98 c = a1 ∧ vw h 100 c = a2)))) :=
  pt_d (d295_0 S z1 z2 (fun w g => l_295 S hN n x1 x2 w 0 z1 z2 g (Int.le_refl _) hN.1 (fun c a b => by omega)))
theorem d291_0 {n : Nat} {X : aX} {h : aH} {P : Int → aH → Prop} {x1 x2 : Int32} {a1 a2 : Int} (S : wS h) (z1 : x1.toInt = a1) (z2 : x2.toInt = a2) (H : (∀ (w3 : Int32), w3.toInt = 0 → Pt n X zM291 2 [some (.ref 72), some (.int x1), some (.int x2), some (.int w3)] [] h (qI P))) : Pt (n + 1) X zM291 0 [some (.ref 72), some (.int x1), some (.int x2), none] [] h (qI P) := by
  refine pt_iconst gx291_0 (fun v1 h1 => ?_)
  refine pt_d (pt_1 (fun n d => r_istoren (L' := [some (.ref 72), some (.int x1), some (.int x2), some (.int v1)]) gx291_1 rfl rfl) ?_)
  exact H v1 h1
theorem d291_2 {n : Nat} {X : aX} {h : aH} {P : Int → aH → Prop} {x1 x2 x3 : Int32} {a1 a2 a3 : Int} (S : wS h) (z1 : x1.toInt = a1) (z2 : x2.toInt = a2) (z3 : x3.toInt = a3) (H : ((vw h 72 19 ≤ a3 → P 0 h) ∧ (a3 < vw h 72 19 → (0 ≤ a3 → a3 < 300 → ((vw h 103 a3 = 0 → (∀ (w3 : Int32), w3.toInt = w32 (a3 + 1) → Pt n X zM291 2 [some (.ref 72), some (.int x1), some (.int x2), some (.int w3)] [] h (qI P))) ∧ (vw h 103 a3 ≠ 0 → ((vw h 87 a3 ≠ a1 → (∀ (w3 : Int32), w3.toInt = w32 (a3 + 1) → Pt n X zM291 2 [some (.ref 72), some (.int x1), some (.int x2), some (.int w3)] [] h (qI P))) ∧ (vw h 87 a3 = a1 → ((iDiv ((vw h) 90 a3) 365 ≠ a2 → (∀ (w3 : Int32), w3.toInt = w32 (a3 + 1) → Pt n X zM291 2 [some (.ref 72), some (.int x1), some (.int x2), some (.int w3)] [] h (qI P))) ∧ (iDiv ((vw h) 90 a3) 365 = a2 → P 1 h)))))))))) : Pt (n + 1) X zM291 2 [some (.ref 72), some (.int x1), some (.int x2), some (.int x3)] [] h (qI P) := by
  refine pt_1 (fun n d => r_iloadn gx291_2 rfl) ?_
  refine pt_d (pt_1 (fun n d => r_aloadn gx291_3 rfl) ?_)
  refine pt_d (pt_getI (B := 19) gx291_4 S (fun v1 h1 => ?_))
  refine pt_d (pt_icmp_ge gx291_7 z3 h1 (fun e2 => ?_) (fun e2 => ?_))
  · have H := H.1 e2
    refine pt_d (pt_iconst gx291_46 (fun v3 h3 => ?_))
    exact pt_d (pt_iret gx291_47 ⟨_, rfl, by rw [h3]; exact H⟩)
  · have H := H.2 e2
    refine pt_d (pt_1 (fun n d => r_aloadn gx291_10 rfl) ?_)
    refine pt_d (pt_getR gx291_11 S tr_72_40 ?_)
    refine pt_d (pt_1 (fun n d => r_iloadn gx291_14 rfl) ?_)
    refine pt_d (pt_zald (N' := 300) gx291_15 S tl_103 z3 (fun v5 p5 q5 h5 => ?_))
    have H := H p5 q5
    refine pt_d (pt_if_eq gx291_16 h5 (fun e6 => ?_) (fun e6 => ?_))
    · have H := H.1 e6
      refine pt_d (pt_iinc (c := 1) gx291_40 rfl z3 (fun v7 h7 => ?_))
      show Pt _ _ _ _ [some (.ref 72), some (.int x1), some (.int x2), some (.int v7)] [] _ _
      refine pt_d (pt_1 (fun n d => r_goto gx291_43) ?_)
      exact H v7 h7
    · have H := H.2 e6
      refine pt_d (pt_1 (fun n d => r_aloadn gx291_19 rfl) ?_)
      refine pt_d (pt_getR gx291_20 S tr_72_20 ?_)
      refine pt_d (pt_1 (fun n d => r_iloadn gx291_23 rfl) ?_)
      refine pt_d (pt_iald (N' := 300) gx291_24 S tl_87 z3 (fun v9 p9 q9 h9 => ?_))
      refine pt_d (pt_1 (fun n d => r_iloadn gx291_25 rfl) ?_)
      refine pt_d (pt_icmp_ne gx291_26 h9 z1 (fun e10 => ?_) (fun e10 => ?_))
      · have H := H.1 e10
        refine pt_d (pt_iinc (c := 1) gx291_40 rfl z3 (fun v11 h11 => ?_))
        show Pt _ _ _ _ [some (.ref 72), some (.int x1), some (.int x2), some (.int v11)] [] _ _
        refine pt_d (pt_1 (fun n d => r_goto gx291_43) ?_)
        exact H v11 h11
      · have H := H.2 e10
        refine pt_d (pt_1 (fun n d => r_aloadn gx291_29 rfl) ?_)
        refine pt_d (pt_1 (fun n d => r_iloadn gx291_30 rfl) ?_)
        refine pt_d (pt_virt (as := [.int x3]) (r := []) gx291_31 rfl (show zmt[229]? = some zM229 from rfl) rfl rfl rfl rfl (c_229 S z3) (kqP (fun v12 h12 => ?_)))
        show Pt _ _ _ 34 _ [.int v12] _ _
        refine pt_d (pt_1 (fun n d => r_iloadn gx291_34 rfl) ?_)
        refine pt_d (pt_icmp_ne gx291_35 h12 z2 (fun e13 => ?_) (fun e13 => ?_))
        · have H := H.1 e13
          refine pt_d (pt_iinc (c := 1) gx291_40 rfl z3 (fun v14 h14 => ?_))
          show Pt _ _ _ _ [some (.ref 72), some (.int x1), some (.int x2), some (.int v14)] [] _ _
          refine pt_d (pt_1 (fun n d => r_goto gx291_43) ?_)
          exact H v14 h14
        · have H := H.2 e13
          refine pt_d (pt_iconst gx291_38 (fun v15 h15 => ?_))
          exact pt_d (pt_iret gx291_39 ⟨_, rfl, by rw [h15]; exact H⟩)
theorem l_291 {X : aX} {h : aH} {f y : Int} (S : wS h) (hN : 0 ≤ vw h 72 19 ∧ vw h 72 19 ≤ 300) : ∀ (n : Nat) (x1 x2 x3 : Int32) (k : Int), x1.toInt = f → x2.toInt = y → x3.toInt = k → 0 ≤ k → k ≤ vw h 72 19 → (∀ c, 0 ≤ c → c < k → ¬ ((vw h 103 c ≠ 0 ∧ vw h 87 c = f ∧ iDiv (vw h 90 c) 365 = y))) → Pt n X zM291 2 [some (.ref 72), some (.int x1), some (.int x2), some (.int x3)] [] h (qI (fun r h' => h' = h ∧ r = bI (∃ c, (0 ≤ c ∧ c < vw h 72 19) ∧ (vw h 103 c ≠ 0 ∧ vw h 87 c = f ∧ iDiv (vw h 90 c) 365 = y)))) := by
  intro n
  induction n with
  | zero => intros; exact pt_z
  | succ n ih =>
    intro x1 x2 x3 k h1 h2 hk k0 kN no
    have next : ¬ ((vw h 103 k ≠ 0 ∧ vw h 87 k = f ∧ iDiv (vw h 90 k) 365 = y)) → k < vw h 72 19 → ∀ w : Int32, w.toInt = w32 (k + 1) → Pt n X zM291 2 [some (.ref 72), some (.int x1), some (.int x2), some (.int w)] [] h (qI (fun r h' => h' = h ∧ r = bI (∃ c, (0 ≤ c ∧ c < vw h 72 19) ∧ (vw h 103 c ≠ 0 ∧ vw h 87 c = f ∧ iDiv (vw h 90 c) 365 = y)))) := by
      intro z e w g
      replace g := w_1 g (by omega) (by omega)
      refine ih x1 x2 w (k + 1) h1 h2 g (by omega) (by omega) (fun c c0 ck => ?_)
      by_cases q : c = k
      · rw [q]
        exact z
      · exact no c c0 (by omega)
    refine d291_2 S h1 h2 hk ⟨fun e => ⟨rfl, (bI_f (fun ⟨c, m, z⟩ => no c m.1 (by omega) z)).symm⟩, fun e p q => ⟨fun z0 w g => next (fun q => q.1 z0) e w g, fun z0 => ⟨fun z1 w g => next (fun q => z1 (q.2.1)) e w g, fun z1 => ⟨fun z2 w g => next (fun q => z2 (q.2.2)) e w g, fun z2 => ⟨rfl, (bI_t ⟨k, ⟨k0, e⟩, z0, z1, z2⟩).symm⟩⟩⟩⟩⟩
theorem c_291 {n : Nat} {X : aX} {h : aH} {x1 x2 : Int32} {a1 a2 : Int} (S : wS h) (z1 : x1.toInt = a1) (z2 : x2.toInt = a2) (hN : 0 ≤ vw h 72 19 ∧ vw h 72 19 ≤ 300) : Pt n X zM291 0 [some (.ref 72), some (.int x1), some (.int x2), none] [] h (qI (fun r h' => h' = h ∧ r = bI (∃ c, (0 ≤ c ∧ c < vw h 72 19) ∧ (vw h 103 c ≠ 0 ∧ vw h 87 c = a1 ∧ iDiv (vw h 90 c) 365 = a2)))) :=
  pt_d (d291_0 S z1 z2 (fun w g => l_291 S hN n x1 x2 w 0 z1 z2 g (Int.le_refl _) hN.1 (fun c a b => by omega)))

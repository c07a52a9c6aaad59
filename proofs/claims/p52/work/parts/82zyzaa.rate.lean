-- ===== 82zyzaa.rate: 6 texts =====
section
-- ===== the rate of errors =====
theorem d36_0 {n : Nat} {X : aX} {h : aH} {P : Int → aH → Prop} {x1 x2 : Int32} {a1 a2 : Int} (S : wS h) (z1 : x1.toInt = a1) (z2 : x2.toInt = a2) (H : (∀ (w3 : Int32), w3.toInt = 0 → Pt n X zM36 2 [some (.ref 16), some (.int x1), some (.int x2), some (.int w3)] [] h (qI P))) : Pt (n + 1) X zM36 0 [some (.ref 16), some (.int x1), some (.int x2), none] [] h (qI P) := by
  refine pt_iconst gx36_0 (fun v1 h1 => ?_)
  refine pt_d (pt_1 (fun n d => r_istoren (L' := [some (.ref 16), some (.int x1), some (.int x2), some (.int v1)]) gx36_1 rfl rfl) ?_)
  exact H v1 h1
theorem d36_2 {n : Nat} {X : aX} {h : aH} {P : Int → aH → Prop} {x1 x2 x3 : Int32} {a1 a2 a3 : Int} (S : wS h) (z1 : x1.toInt = a1) (z2 : x2.toInt = a2) (z3 : x3.toInt = a3) (H : ((vw h 16 3 ≤ a3 → P 0 h) ∧ (a3 < vw h 16 3 → (0 ≤ a3 → a3 < 200 → ((vw h 27 a3 ≠ a1 → (∀ (w3 : Int32), w3.toInt = w32 (a3 + 1) → Pt n X zM36 2 [some (.ref 16), some (.int x1), some (.int x2), some (.int w3)] [] h (qI P))) ∧ (vw h 27 a3 = a1 → ((vw h 29 a3 ≠ a2 → (∀ (w3 : Int32), w3.toInt = w32 (a3 + 1) → Pt n X zM36 2 [some (.ref 16), some (.int x1), some (.int x2), some (.int w3)] [] h (qI P))) ∧ (vw h 29 a3 = a2 → P 1 h)))))))) : Pt (n + 1) X zM36 2 [some (.ref 16), some (.int x1), some (.int x2), some (.int x3)] [] h (qI P) := by
  refine pt_1 (fun n d => r_iloadn gx36_2 rfl) ?_
  refine pt_d (pt_1 (fun n d => r_aloadn gx36_3 rfl) ?_)
  refine pt_d (pt_getI (B := 3) gx36_4 S (fun v1 h1 => ?_))
  refine pt_d (pt_icmp_ge gx36_7 z3 h1 (fun e2 => ?_) (fun e2 => ?_))
  · have H := H.1 e2
    refine pt_d (pt_iconst gx36_38 (fun v3 h3 => ?_))
    exact pt_d (pt_iret gx36_39 ⟨_, rfl, by rw [h3]; exact H⟩)
  · have H := H.2 e2
    refine pt_d (pt_1 (fun n d => r_aloadn gx36_10 rfl) ?_)
    refine pt_d (pt_getR gx36_11 S tr_16_14 ?_)
    refine pt_d (pt_1 (fun n d => r_iloadn gx36_14 rfl) ?_)
    refine pt_d (pt_iald (N' := 200) gx36_15 S tl_27 z3 (fun v5 p5 q5 h5 => ?_))
    have H := H p5 q5
    refine pt_d (pt_1 (fun n d => r_iloadn gx36_16 rfl) ?_)
    refine pt_d (pt_icmp_ne gx36_17 h5 z1 (fun e6 => ?_) (fun e6 => ?_))
    · have H := H.1 e6
      refine pt_d (pt_iinc (c := 1) gx36_32 rfl z3 (fun v7 h7 => ?_))
      show Pt _ _ _ _ [some (.ref 16), some (.int x1), some (.int x2), some (.int v7)] [] _ _
      refine pt_d (pt_1 (fun n d => r_goto gx36_35) ?_)
      exact H v7 h7
    · have H := H.2 e6
      refine pt_d (pt_1 (fun n d => r_aloadn gx36_20 rfl) ?_)
      refine pt_d (pt_getR gx36_21 S tr_16_16 ?_)
      refine pt_d (pt_1 (fun n d => r_iloadn gx36_24 rfl) ?_)
      refine pt_d (pt_iald (N' := 200) gx36_25 S tl_29 z3 (fun v9 p9 q9 h9 => ?_))
      refine pt_d (pt_1 (fun n d => r_iloadn gx36_26 rfl) ?_)
      refine pt_d (pt_icmp_ne gx36_27 h9 z2 (fun e10 => ?_) (fun e10 => ?_))
      · have H := H.1 e10
        refine pt_d (pt_iinc (c := 1) gx36_32 rfl z3 (fun v11 h11 => ?_))
        show Pt _ _ _ _ [some (.ref 16), some (.int x1), some (.int x2), some (.int v11)] [] _ _
        refine pt_d (pt_1 (fun n d => r_goto gx36_35) ?_)
        exact H v11 h11
      · have H := H.2 e10
        refine pt_d (pt_iconst gx36_30 (fun v12 h12 => ?_))
        exact pt_d (pt_iret gx36_31 ⟨_, rfl, by rw [h12]; exact H⟩)
theorem l_36 {X : aX} {h : aH} {f y : Int} (S : wS h) (hN : 0 ≤ vw h 16 3 ∧ vw h 16 3 ≤ 200) : ∀ (n : Nat) (x1 x2 x3 : Int32) (k : Int), x1.toInt = f → x2.toInt = y → x3.toInt = k → 0 ≤ k → k ≤ vw h 16 3 → (∀ c, 0 ≤ c → c < k → ¬ ((vw h 27 c = f ∧ vw h 29 c = y))) → Pt n X zM36 2 [some (.ref 16), some (.int x1), some (.int x2), some (.int x3)] [] h (qI (fun r h' => h' = h ∧ r = bI (∃ c, (0 ≤ c ∧ c < vw h 16 3) ∧ (vw h 27 c = f ∧ vw h 29 c = y)))) := by
  intro n
  induction n with
  | zero => intros; exact pt_z
  | succ n ih =>
    intro x1 x2 x3 k h1 h2 hk k0 kN no
    have next : ¬ ((vw h 27 k = f ∧ vw h 29 k = y)) → k < vw h 16 3 → ∀ w : Int32, w.toInt = w32 (k + 1) → Pt n X zM36 2 [some (.ref 16), some (.int x1), some (.int x2), some (.int w)] [] h (qI (fun r h' => h' = h ∧ r = bI (∃ c, (0 ≤ c ∧ c < vw h 16 3) ∧ (vw h 27 c = f ∧ vw h 29 c = y)))) := by
      intro z e w g
      replace g := w_1 g (by omega) (by omega)
      refine ih x1 x2 w (k + 1) h1 h2 g (by omega) (by omega) (fun c c0 ck => ?_)
      by_cases q : c = k
      · rw [q]
        exact z
      · exact no c c0 (by omega)
    refine d36_2 S h1 h2 hk ⟨fun e => ⟨rfl, (bI_f (fun ⟨c, m, z⟩ => no c m.1 (by omega) z)).symm⟩, fun e p q => ⟨fun z0 w g => next (fun q => z0 (q.1)) e w g, fun z0 => ⟨fun z1 w g => next (fun q => z1 (q.2)) e w g, fun z1 => ⟨rfl, (bI_t ⟨k, ⟨k0, e⟩, z0, z1⟩).symm⟩⟩⟩⟩
theorem c_36 {n : Nat} {X : aX} {h : aH} {x1 x2 : Int32} {a1 a2 : Int} (S : wS h) (z1 : x1.toInt = a1) (z2 : x2.toInt = a2) (hN : 0 ≤ vw h 16 3 ∧ vw h 16 3 ≤ 200) : Pt n X zM36 0 [some (.ref 16), some (.int x1), some (.int x2), none] [] h (qI (fun r h' => h' = h ∧ r = bI (∃ c, (0 ≤ c ∧ c < vw h 16 3) ∧ (vw h 27 c = a1 ∧ vw h 29 c = a2)))) :=
  pt_d (d36_0 S z1 z2 (fun w g => l_36 S hN n x1 x2 w 0 z1 z2 g (Int.le_refl _) hN.1 (fun c a b => by omega)))
theorem d295_0 {n : Nat} {X : aX} {h : aH} {P : Int → aH → Prop} {x1 x2 : Int32} {a1 a2 : Int} (S : wS h) (z1 : x1.toInt = a1) (z2 : x2.toInt = a2) (H : (∀ (w3 : Int32), w3.toInt = 0 → Pt n X zM295 2 [some (.ref 72), some (.int x1), some (.int x2), some (.int w3)] [] h (qI P))) : Pt (n + 1) X zM295 0 [some (.ref 72), some (.int x1), some (.int x2), none] [] h (qI P) := by
  refine pt_iconst gx295_0 (fun v1 h1 => ?_)
  refine pt_d (pt_1 (fun n d => r_istoren (L' := [some (.ref 72), some (.int x1), some (.int x2), some (.int v1)]) gx295_1 rfl rfl) ?_)
  exact H v1 h1
theorem d295_2 {n : Nat} {X : aX} {h : aH} {P : Int → aH → Prop} {x1 x2 x3 : Int32} {a1 a2 a3 : Int} (S : wS h) (z1 : x1.toInt = a1) (z2 : x2.toInt = a2) (z3 : x3.toInt = a3) (H : ((vw h 72 32 ≤ a3 → P 0 h) ∧ (a3 < vw h 72 32 → (0 ≤ a3 → a3 < 200 → ((vw h 98 a3 ≠ a1 → (∀ (w3 : Int32), w3.toInt = w32 (a3 + 1) → Pt n X zM295 2 [some (.ref 72), some (.int x1), some (.int x2), some (.int w3)] [] h (qI P))) ∧ (vw h 98 a3 = a1 → ((vw h 100 a3 ≠ a2 → (∀ (w3 : Int32), w3.toInt = w32 (a3 + 1) → Pt n X zM295 2 [some (.ref 72), some (.int x1), some (.int x2), some (.int w3)] [] h (qI P))) ∧ (vw h 100 a3 = a2 → P 1 h)))))))) : Pt (n + 1) X zM295 2 [some (.ref 72), some (.int x1), some (.int x2), some (.int x3)] [] h (qI P) := by
  refine pt_1 (fun n d => r_iloadn gx295_2 rfl) ?_
  refine pt_d (pt_1 (fun n d => r_aloadn gx295_3 rfl) ?_)
  refine pt_d (pt_getI (B := 32) gx295_4 S (fun v1 h1 => ?_))
  refine pt_d (pt_icmp_ge gx295_7 z3 h1 (fun e2 => ?_) (fun e2 => ?_))
  · have H := H.1 e2
    refine pt_d (pt_iconst gx295_38 (fun v3 h3 => ?_))
    exact pt_d (pt_iret gx295_39 ⟨_, rfl, by rw [h3]; exact H⟩)
  · have H := H.2 e2
    refine pt_d (pt_1 (fun n d => r_aloadn gx295_10 rfl) ?_)
    refine pt_d (pt_getR gx295_11 S tr_72_33 ?_)
    refine pt_d (pt_1 (fun n d => r_iloadn gx295_14 rfl) ?_)
    refine pt_d (pt_iald (N' := 200) gx295_15 S tl_98 z3 (fun v5 p5 q5 h5 => ?_))
    have H := H p5 q5
    refine pt_d (pt_1 (fun n d => r_iloadn gx295_16 rfl) ?_)
    refine pt_d (pt_icmp_ne gx295_17 h5 z1 (fun e6 => ?_) (fun e6 => ?_))
    · have H := H.1 e6
      refine pt_d (pt_iinc (c := 1) gx295_32 rfl z3 (fun v7 h7 => ?_))
      show Pt _ _ _ _ [some (.ref 72), some (.int x1), some (.int x2), some (.int v7)] [] _ _
      refine pt_d (pt_1 (fun n d => r_goto gx295_35) ?_)
      exact H v7 h7
    · have H := H.2 e6
      refine pt_d (pt_1 (fun n d => r_aloadn gx295_20 rfl) ?_)
      refine pt_d (pt_getR gx295_21 S tr_72_35 ?_)
      refine pt_d (pt_1 (fun n d => r_iloadn gx295_24 rfl) ?_)
      refine pt_d (pt_iald (N' := 200) gx295_25 S tl_100 z3 (fun v9 p9 q9 h9 => ?_))
      refine pt_d (pt_1 (fun n d => r_iloadn gx295_26 rfl) ?_)
      refine pt_d (pt_icmp_ne gx295_27 h9 z2 (fun e10 => ?_) (fun e10 => ?_))
      · have H := H.1 e10
        refine pt_d (pt_iinc (c := 1) gx295_32 rfl z3 (fun v11 h11 => ?_))
        show Pt _ _ _ _ [some (.ref 72), some (.int x1), some (.int x2), some (.int v11)] [] _ _
        refine pt_d (pt_1 (fun n d => r_goto gx295_35) ?_)
        exact H v11 h11
      · have H := H.2 e10
        refine pt_d (pt_iconst gx295_30 (fun v12 h12 => ?_))
        exact pt_d (pt_iret gx295_31 ⟨_, rfl, by rw [h12]; exact H⟩)
theorem l_295 {X : aX} {h : aH} {f y : Int} (S : wS h) (hN : 0 ≤ vw h 72 32 ∧ vw h 72 32 ≤ 200) : ∀ (n : Nat) (x1 x2 x3 : Int32) (k : Int), x1.toInt = f → x2.toInt = y → x3.toInt = k → 0 ≤ k → k ≤ vw h 72 32 → (∀ c, 0 ≤ c → c < k → ¬ ((vw h 98 c = f ∧ vw h 100 c = y))) → Pt n X zM295 2 [some (.ref 72), some (.int x1), some (.int x2), some (.int x3)] [] h (qI (fun r h' => h' = h ∧ r = bI (∃ c, (0 ≤ c ∧ c < vw h 72 32) ∧ (vw h 98 c = f ∧ vw h 100 c = y)))) := by
  intro n
  induction n with
  | zero => intros; exact pt_z
  | succ n ih =>
    intro x1 x2 x3 k h1 h2 hk k0 kN no
    have next : ¬ ((vw h 98 k = f ∧ vw h 100 k = y)) → k < vw h 72 32 → ∀ w : Int32, w.toInt = w32 (k + 1) → Pt n X zM295 2 [some (.ref 72), some (.int x1), some (.int x2), some (.int w)] [] h (qI (fun r h' => h' = h ∧ r = bI (∃ c, (0 ≤ c ∧ c < vw h 72 32) ∧ (vw h 98 c = f ∧ vw h 100 c = y)))) := by
      intro z e w g
      replace g := w_1 g (by omega) (by omega)
      refine ih x1 x2 w (k + 1) h1 h2 g (by omega) (by omega) (fun c c0 ck => ?_)
      by_cases q : c = k
      · rw [q]
        exact z
      · exact no c c0 (by omega)
    refine d295_2 S h1 h2 hk ⟨fun e => ⟨rfl, (bI_f (fun ⟨c, m, z⟩ => no c m.1 (by omega) z)).symm⟩, fun e p q => ⟨fun z0 w g => next (fun q => z0 (q.1)) e w g, fun z0 => ⟨fun z1 w g => next (fun q => z1 (q.2)) e w g, fun z1 => ⟨rfl, (bI_t ⟨k, ⟨k0, e⟩, z0, z1⟩).symm⟩⟩⟩⟩
theorem c_295 {n : Nat} {X : aX} {h : aH} {x1 x2 : Int32} {a1 a2 : Int} (S : wS h) (z1 : x1.toInt = a1) (z2 : x2.toInt = a2) (hN : 0 ≤ vw h 72 32 ∧ vw h 72 32 ≤ 200) : Pt n X zM295 0 [some (.ref 72), some (.int x1), some (.int x2), none] [] h (qI (fun r h' => h' = h ∧ r = bI (∃ c, (0 ≤ c ∧ c < vw h 72 32) ∧ (vw h 98 c = a1 ∧ vw h 100 c = a2)))) :=
  pt_d (d295_0 S z1 z2 (fun w g => l_295 S hN n x1 x2 w 0 z1 z2 g (Int.le_refl _) hN.1 (fun c a b => by omega)))
theorem d291_0 {n : Nat} {X : aX} {h : aH} {P : Int → aH → Prop} {x1 x2 : Int32} {a1 a2 : Int} (S : wS h) (z1 : x1.toInt = a1) (z2 : x2.toInt = a2) (H : (∀ (w3 : Int32), w3.toInt = 0 → Pt n X zM291 2 [some (.ref 72), some (.int x1), some (.int x2), some (.int w3)] [] h (qI P))) : Pt (n + 1) X zM291 0 [some (.ref 72), some (.int x1), some (.int x2), none] [] h (qI P) := by
  refine pt_iconst gx291_0 (fun v1 h1 => ?_)
  refine pt_d (pt_1 (fun n d => r_istoren (L' := [some (.ref 72), some (.int x1), some (.int x2), some (.int v1)]) gx291_1 rfl rfl) ?_)
  exact H v1 h1
theorem d291_2 {n : Nat} {X : aX} {h : aH} {P : Int → aH → Prop} {x1 x2 x3 : Int32} {a1 a2 a3 : Int} (S : wS h) (z1 : x1.toInt = a1) (z2 : x2.toInt = a2) (z3 : x3.toInt = a3) (H : ((vw h 72 19 ≤ a3 → P 0 h) ∧ (a3 < vw h 72 19 → (0 ≤ a3 → a3 < 300 → ((vw h 103 a3 = 0 → (∀ (w3 : Int32), w3.toInt = w32 (a3 + 1) → Pt n X zM291 2 [some (.ref 72), some (.int x1), some (.int x2), some (.int w3)] [] h (qI P))) ∧ (vw h 103 a3 ≠ 0 → ((vw h 87 a3 ≠ a1 → (∀ (w3 : Int32), w3.toInt = w32 (a3 + 1) → Pt n X zM291 2 [some (.ref 72), some (.int x1), some (.int x2), some (.int w3)] [] h (qI P))) ∧ (vw h 87 a3 = a1 → ((iDiv ((vw h) 90 a3) 365 ≠ a2 → (∀ (w3 : Int32), w3.toInt = w32 (a3 + 1) → Pt n X zM291 2 [some (.ref 72), some (.int x1), some (.int x2), some (.int w3)] [] h (qI P))) ∧ (iDiv ((vw h) 90 a3) 365 = a2 → P 1 h)))))))))) : Pt (n + 1) X zM291 2 [some (.ref 72), some (.int x1), some (.int x2), some (.int x3)] [] h (qI P) := by
  refine pt_1 (fun n d => r_iloadn gx291_2 rfl) ?_
  refine pt_d (pt_1 (fun n d => r_aloadn gx291_3 rfl) ?_)
  refine pt_d (pt_getI (B := 19) gx291_4 S (fun v1 h1 => ?_))
  refine pt_d (pt_icmp_ge gx291_7 z3 h1 (fun e2 => ?_) (fun e2 => ?_))
  · have H := H.1 e2
    refine pt_d (pt_iconst gx291_46 (fun v3 h3 => ?_))
    exact pt_d (pt_iret gx291_47 ⟨_, rfl, by rw [h3]; exact H⟩)
  · have H := H.2 e2
    refine pt_d (pt_1 (fun n d => r_aloadn gx291_10 rfl) ?_)
    refine pt_d (pt_getR gx291_11 S tr_72_40 ?_)
    refine pt_d (pt_1 (fun n d => r_iloadn gx291_14 rfl) ?_)
    refine pt_d (pt_zald (N' := 300) gx291_15 S tl_103 z3 (fun v5 p5 q5 h5 => ?_))
    have H := H p5 q5
    refine pt_d (pt_if_eq gx291_16 h5 (fun e6 => ?_) (fun e6 => ?_))
    · have H := H.1 e6
      refine pt_d (pt_iinc (c := 1) gx291_40 rfl z3 (fun v7 h7 => ?_))
      show Pt _ _ _ _ [some (.ref 72), some (.int x1), some (.int x2), some (.int v7)] [] _ _
      refine pt_d (pt_1 (fun n d => r_goto gx291_43) ?_)
      exact H v7 h7
    · have H := H.2 e6
      refine pt_d (pt_1 (fun n d => r_aloadn gx291_19 rfl) ?_)
      refine pt_d (pt_getR gx291_20 S tr_72_20 ?_)
      refine pt_d (pt_1 (fun n d => r_iloadn gx291_23 rfl) ?_)
      refine pt_d (pt_iald (N' := 300) gx291_24 S tl_87 z3 (fun v9 p9 q9 h9 => ?_))
      refine pt_d (pt_1 (fun n d => r_iloadn gx291_25 rfl) ?_)
      refine pt_d (pt_icmp_ne gx291_26 h9 z1 (fun e10 => ?_) (fun e10 => ?_))
      · have H := H.1 e10
        refine pt_d (pt_iinc (c := 1) gx291_40 rfl z3 (fun v11 h11 => ?_))
        show Pt _ _ _ _ [some (.ref 72), some (.int x1), some (.int x2), some (.int v11)] [] _ _
        refine pt_d (pt_1 (fun n d => r_goto gx291_43) ?_)
        exact H v11 h11
      · have H := H.2 e10
        refine pt_d (pt_1 (fun n d => r_aloadn gx291_29 rfl) ?_)
        refine pt_d (pt_1 (fun n d => r_iloadn gx291_30 rfl) ?_)
        refine pt_d (pt_virt (as := [.int x3]) (r := []) gx291_31 rfl (show zmt[229]? = some zM229 from rfl) rfl rfl rfl rfl (c_229 S z3) (kqP (fun v12 h12 => ?_)))
        show Pt _ _ _ 34 _ [.int v12] _ _
        refine pt_d (pt_1 (fun n d => r_iloadn gx291_34 rfl) ?_)
        refine pt_d (pt_icmp_ne gx291_35 h12 z2 (fun e13 => ?_) (fun e13 => ?_))
        · have H := H.1 e13
          refine pt_d (pt_iinc (c := 1) gx291_40 rfl z3 (fun v14 h14 => ?_))
          show Pt _ _ _ _ [some (.ref 72), some (.int x1), some (.int x2), some (.int v14)] [] _ _
          refine pt_d (pt_1 (fun n d => r_goto gx291_43) ?_)
          exact H v14 h14
        · have H := H.2 e13
          refine pt_d (pt_iconst gx291_38 (fun v15 h15 => ?_))
          exact pt_d (pt_iret gx291_39 ⟨_, rfl, by rw [h15]; exact H⟩)
theorem l_291 {X : aX} {h : aH} {f y : Int} (S : wS h) (hN : 0 ≤ vw h 72 19 ∧ vw h 72 19 ≤ 300) : ∀ (n : Nat) (x1 x2 x3 : Int32) (k : Int), x1.toInt = f → x2.toInt = y → x3.toInt = k → 0 ≤ k → k ≤ vw h 72 19 → (∀ c, 0 ≤ c → c < k → ¬ ((vw h 103 c ≠ 0 ∧ vw h 87 c = f ∧ iDiv (vw h 90 c) 365 = y))) → Pt n X zM291 2 [some (.ref 72), some (.int x1), some (.int x2), some (.int x3)] [] h (qI (fun r h' => h' = h ∧ r = bI (∃ c, (0 ≤ c ∧ c < vw h 72 19) ∧ (vw h 103 c ≠ 0 ∧ vw h 87 c = f ∧ iDiv (vw h 90 c) 365 = y)))) := by
  intro n
  induction n with
  | zero => intros; exact pt_z
  | succ n ih =>
    intro x1 x2 x3 k h1 h2 hk k0 kN no
    have next : ¬ ((vw h 103 k ≠ 0 ∧ vw h 87 k = f ∧ iDiv (vw h 90 k) 365 = y)) → k < vw h 72 19 → ∀ w : Int32, w.toInt = w32 (k + 1) → Pt n X zM291 2 [some (.ref 72), some (.int x1), some (.int x2), some (.int w)] [] h (qI (fun r h' => h' = h ∧ r = bI (∃ c, (0 ≤ c ∧ c < vw h 72 19) ∧ (vw h 103 c ≠ 0 ∧ vw h 87 c = f ∧ iDiv (vw h 90 c) 365 = y)))) := by
      intro z e w g
      replace g := w_1 g (by omega) (by omega)
      refine ih x1 x2 w (k + 1) h1 h2 g (by omega) (by omega) (fun c c0 ck => ?_)
      by_cases q : c = k
      · rw [q]
        exact z
      · exact no c c0 (by omega)
    refine d291_2 S h1 h2 hk ⟨fun e => ⟨rfl, (bI_f (fun ⟨c, m, z⟩ => no c m.1 (by omega) z)).symm⟩, fun e p q => ⟨fun z0 w g => next (fun q => q.1 z0) e w g, fun z0 => ⟨fun z1 w g => next (fun q => z1 (q.2.1)) e w g, fun z1 => ⟨fun z2 w g => next (fun q => z2 (q.2.2)) e w g, fun z2 => ⟨rfl, (bI_t ⟨k, ⟨k0, e⟩, z0, z1, z2⟩).symm⟩⟩⟩⟩⟩
theorem c_291 {n : Nat} {X : aX} {h : aH} {x1 x2 : Int32} {a1 a2 : Int} (S : wS h) (z1 : x1.toInt = a1) (z2 : x2.toInt = a2) (hN : 0 ≤ vw h 72 19 ∧ vw h 72 19 ≤ 300) : Pt n X zM291 0 [some (.ref 72), some (.int x1), some (.int x2), none] [] h (qI (fun r h' => h' = h ∧ r = bI (∃ c, (0 ≤ c ∧ c < vw h 72 19) ∧ (vw h 103 c ≠ 0 ∧ vw h 87 c = a1 ∧ iDiv (vw h 90 c) 365 = a2)))) :=
  pt_d (d291_0 S z1 z2 (fun w g => l_291 S hN n x1 x2 w 0 z1 z2 g (Int.le_refl _) hN.1 (fun c a b => by omega)))
end
section
-- ===== the rate of errors =====
theorem d270_0 {n : Nat} {X : aX} {h : aH} {P : Int → aH → Prop} {x1 x2 x3 : Int32} {a1 a2 a3 : Int} (S : wS h) (z1 : x1.toInt = a1) (z2 : x2.toInt = a2) (z3 : x3.toInt = a3) (H : (∀ (w4 : Int32) (w5 : Int32), w4.toInt = 0 → w5.toInt = 0 → Pt n X zM270 6 [some (.ref 72), some (.int x1), some (.int x2), some (.int x3), some (.int w4), some (.int w5)] [] h (qI P))) : Pt (n + 1) X zM270 0 [some (.ref 72), some (.int x1), some (.int x2), some (.int x3), none, none] [] h (qI P) := by
  refine pt_iconst gx270_0 (fun v1 h1 => ?_)
  refine pt_d (pt_1 (fun n d => r_istore (L' := [some (.ref 72), some (.int x1), some (.int x2), some (.int x3), some (.int v1), none]) gx270_1 rfl rfl) ?_)
  refine pt_d (pt_iconst gx270_3 (fun v2 h2 => ?_))
  refine pt_d (pt_1 (fun n d => r_istore (L' := [some (.ref 72), some (.int x1), some (.int x2), some (.int x3), some (.int v1), some (.int v2)]) gx270_4 rfl rfl) ?_)
  exact H v1 v2 h1 h2
theorem d270_6 {n : Nat} {X : aX} {h : aH} {P : Int → aH → Prop} {x1 x2 x3 x4 x5 : Int32} {a1 a2 a3 a4 a5 : Int} (S : wS h) (z1 : x1.toInt = a1) (z2 : x2.toInt = a2) (z3 : x3.toInt = a3) (z4 : x4.toInt = a4) (z5 : x5.toInt = a5) (H : ((vw h 72 19 ≤ a5 → P a4 h) ∧ (a5 < vw h 72 19 → (0 ≤ a5 → a5 < 300 → ((vw h 103 a5 = 0 → (∀ (w5 : Int32), w5.toInt = w32 (a5 + 1) → Pt n X zM270 6 [some (.ref 72), some (.int x1), some (.int x2), some (.int x3), some (.int x4), some (.int w5)] [] h (qI P))) ∧ (vw h 103 a5 ≠ 0 → ((vw h 87 a5 ≠ a1 → (∀ (w5 : Int32), w5.toInt = w32 (a5 + 1) → Pt n X zM270 6 [some (.ref 72), some (.int x1), some (.int x2), some (.int x3), some (.int x4), some (.int w5)] [] h (qI P))) ∧ (vw h 87 a5 = a1 → ((iDiv ((vw h) 90 a5) 365 ≠ a2 → (∀ (w5 : Int32), w5.toInt = w32 (a5 + 1) → Pt n X zM270 6 [some (.ref 72), some (.int x1), some (.int x2), some (.int x3), some (.int x4), some (.int w5)] [] h (qI P))) ∧ (iDiv ((vw h) 90 a5) 365 = a2 → ((a3 = 0 → (∀ (w4 : Int32) (w5 : Int32), w4.toInt = w32 (a4 + (vw h 104 a5)) → w5.toInt = w32 (a5 + 1) → Pt n X zM270 6 [some (.ref 72), some (.int x1), some (.int x2), some (.int x3), some (.int w4), some (.int w5)] [] h (qI P))) ∧ (a3 ≠ 0 → (∀ (w4 : Int32) (w5 : Int32), w4.toInt = w32 (a4 + (vw h 105 a5)) → w5.toInt = w32 (a5 + 1) → Pt n X zM270 6 [some (.ref 72), some (.int x1), some (.int x2), some (.int x3), some (.int w4), some (.int w5)] [] h (qI P)))))))))))))) : Pt (n + 1) X zM270 6 [some (.ref 72), some (.int x1), some (.int x2), some (.int x3), some (.int x4), some (.int x5)] [] h (qI P) := by
  refine pt_1 (fun n d => r_iload gx270_6 rfl) ?_
  refine pt_d (pt_1 (fun n d => r_aloadn gx270_8 rfl) ?_)
  refine pt_d (pt_getI (B := 19) gx270_9 S (fun v1 h1 => ?_))
  refine pt_d (pt_icmp_ge gx270_12 z5 h1 (fun e2 => ?_) (fun e2 => ?_))
  · have H := H.1 e2
    refine pt_d (pt_1 (fun n d => r_iload gx270_78 rfl) ?_)
    exact pt_d (pt_iret gx270_80 ⟨_, rfl, by rw [z4]; exact H⟩)
  · have H := H.2 e2
    refine pt_d (pt_1 (fun n d => r_aloadn gx270_15 rfl) ?_)
    refine pt_d (pt_getR gx270_16 S tr_72_40 ?_)
    refine pt_d (pt_1 (fun n d => r_iload gx270_19 rfl) ?_)
    refine pt_d (pt_zald (N' := 300) gx270_21 S tl_103 z5 (fun v4 p4 q4 h4 => ?_))
    have H := H p4 q4
    refine pt_d (pt_if_eq gx270_22 h4 (fun e5 => ?_) (fun e5 => ?_))
    · have H := H.1 e5
      refine pt_d (pt_iinc (c := 1) gx270_72 rfl z5 (fun v6 h6 => ?_))
      show Pt _ _ _ _ [some (.ref 72), some (.int x1), some (.int x2), some (.int x3), some (.int x4), some (.int v6)] [] _ _
      refine pt_d (pt_1 (fun n d => r_goto gx270_75) ?_)
      exact H v6 h6
    · have H := H.2 e5
      refine pt_d (pt_1 (fun n d => r_aloadn gx270_25 rfl) ?_)
      refine pt_d (pt_getR gx270_26 S tr_72_20 ?_)
      refine pt_d (pt_1 (fun n d => r_iload gx270_29 rfl) ?_)
      refine pt_d (pt_iald (N' := 300) gx270_31 S tl_87 z5 (fun v8 p8 q8 h8 => ?_))
      refine pt_d (pt_1 (fun n d => r_iloadn gx270_32 rfl) ?_)
      refine pt_d (pt_icmp_ne gx270_33 h8 z1 (fun e9 => ?_) (fun e9 => ?_))
      · have H := H.1 e9
        refine pt_d (pt_iinc (c := 1) gx270_72 rfl z5 (fun v10 h10 => ?_))
        show Pt _ _ _ _ [some (.ref 72), some (.int x1), some (.int x2), some (.int x3), some (.int x4), some (.int v10)] [] _ _
        refine pt_d (pt_1 (fun n d => r_goto gx270_75) ?_)
        exact H v10 h10
      · have H := H.2 e9
        refine pt_d (pt_1 (fun n d => r_aloadn gx270_36 rfl) ?_)
        refine pt_d (pt_1 (fun n d => r_iload gx270_37 rfl) ?_)
        refine pt_d (pt_virt (as := [.int x5]) (r := []) gx270_39 rfl (show zmt[229]? = some zM229 from rfl) rfl rfl rfl rfl (c_229 S z5) (kqP (fun v11 h11 => ?_)))
        show Pt _ _ _ 42 _ [.int v11] _ _
        refine pt_d (pt_1 (fun n d => r_iloadn gx270_42 rfl) ?_)
        refine pt_d (pt_icmp_ne gx270_43 h11 z2 (fun e12 => ?_) (fun e12 => ?_))
        · have H := H.1 e12
          refine pt_d (pt_iinc (c := 1) gx270_72 rfl z5 (fun v13 h13 => ?_))
          show Pt _ _ _ _ [some (.ref 72), some (.int x1), some (.int x2), some (.int x3), some (.int x4), some (.int v13)] [] _ _
          refine pt_d (pt_1 (fun n d => r_goto gx270_75) ?_)
          exact H v13 h13
        · have H := H.2 e12
          refine pt_d (pt_1 (fun n d => r_iload gx270_46 rfl) ?_)
          refine pt_d (pt_1 (fun n d => r_iloadn gx270_48 rfl) ?_)
          refine pt_d (pt_if_eq gx270_49 z3 (fun e14 => ?_) (fun e14 => ?_))
          · have H := H.1 e14
            refine pt_d (pt_1 (fun n d => r_aloadn gx270_62 rfl) ?_)
            refine pt_d (pt_getR gx270_63 S tr_72_41 ?_)
            refine pt_d (pt_1 (fun n d => r_iload gx270_66 rfl) ?_)
            refine pt_d (pt_iald (N' := 300) gx270_68 S tl_104 z5 (fun v16 p16 q16 h16 => ?_))
            refine pt_d (pt_iadd gx270_69 z4 h16 (fun v17 h17 => ?_))
            refine pt_d (pt_1 (fun n d => r_istore (L' := [some (.ref 72), some (.int x1), some (.int x2), some (.int x3), some (.int v17), some (.int x5)]) gx270_70 rfl rfl) ?_)
            refine pt_d (pt_iinc (c := 1) gx270_72 rfl z5 (fun v18 h18 => ?_))
            show Pt _ _ _ _ [some (.ref 72), some (.int x1), some (.int x2), some (.int x3), some (.int v17), some (.int v18)] [] _ _
            refine pt_d (pt_1 (fun n d => r_goto gx270_75) ?_)
            exact H v17 v18 h17 h18
          · have H := H.2 e14
            refine pt_d (pt_1 (fun n d => r_aloadn gx270_52 rfl) ?_)
            refine pt_d (pt_getR gx270_53 S tr_72_42 ?_)
            refine pt_d (pt_1 (fun n d => r_iload gx270_56 rfl) ?_)
            refine pt_d (pt_iald (N' := 300) gx270_58 S tl_105 z5 (fun v20 p20 q20 h20 => ?_))
            refine pt_d (pt_1 (fun n d => r_goto gx270_59) ?_)
            refine pt_d (pt_iadd gx270_69 z4 h20 (fun v21 h21 => ?_))
            refine pt_d (pt_1 (fun n d => r_istore (L' := [some (.ref 72), some (.int x1), some (.int x2), some (.int x3), some (.int v21), some (.int x5)]) gx270_70 rfl rfl) ?_)
            refine pt_d (pt_iinc (c := 1) gx270_72 rfl z5 (fun v22 h22 => ?_))
            show Pt _ _ _ _ [some (.ref 72), some (.int x1), some (.int x2), some (.int x3), some (.int v21), some (.int v22)] [] _ _
            refine pt_d (pt_1 (fun n d => r_goto gx270_75) ?_)
            exact H v21 v22 h21 h22
noncomputable def mSm (V : vS) (f y : Int) (r : Nat) (n : Nat) : Int := sgm (fun c => pI (V 103 c ≠ 0 ∧ V 87 c = f ∧ iDiv (V 90 c) 365 = y) (V r c)) n
theorem mSm_s (V : vS) (f y : Int) (r n : Nat) : mSm V f y r (n + 1) = mSm V f y r n + pI (V 103 (n : Nat) ≠ 0 ∧ V 87 (n : Nat) = f ∧ iDiv (V 90 (n : Nat)) 365 = y) (V r (n : Nat)) := rfl
theorem l_270 {X : aX} {h : aH} {f y u : Int} (S : wS h) (hN : 0 ≤ vw h 72 19 ∧ vw h 72 19 ≤ 300) : ∀ (n : Nat) (x1 x2 x3 x4 x5 : Int32) (k : Nat), x1.toInt = f → x2.toInt = y → x3.toInt = u → x4.toInt = w32 (mSm (vw h) f y (if u = 0 then 104 else 105) k) → x5.toInt = (k : Int) → (k : Int) ≤ vw h 72 19 → Pt n X zM270 6 [some (.ref 72), some (.int x1), some (.int x2), some (.int x3), some (.int x4), some (.int x5)] [] h (qI (fun r h' => h' = h ∧ r = w32 (mSm (vw h) f y (if u = 0 then 104 else 105) (vw h 72 19).toNat))) := by
  intro n
  induction n with
  | zero => intros; exact pt_z
  | succ n ih =>
    intro x1 x2 x3 x4 x5 k h1 h2 h3 h4 h5 hk
    have skip : (k : Int) < vw h 72 19 → ¬ (vw h 103 (k : Nat) ≠ 0 ∧ vw h 87 (k : Nat) = f ∧ iDiv (vw h 90 (k : Nat)) 365 = y) → ∀ w5 : Int32, w5.toInt = w32 ((k : Int) + 1) → Pt n X zM270 6 [some (.ref 72), some (.int x1), some (.int x2), some (.int x3), some (.int x4), some (.int w5)] [] h (qI (fun r h' => h' = h ∧ r = w32 (mSm (vw h) f y (if u = 0 then 104 else 105) (vw h 72 19).toNat))) := by
      intro e z w5 g
      replace g := w_1 g (by omega) (by omega)
      refine ih x1 x2 x3 x4 w5 (k + 1) h1 h2 h3 ?_ (by omega) (by omega)
      rw [mSm_s, pI_f z, Int.add_zero]
      exact h4
    have take : (k : Int) < vw h 72 19 → (vw h 103 (k : Nat) ≠ 0 ∧ vw h 87 (k : Nat) = f ∧ iDiv (vw h 90 (k : Nat)) 365 = y) → ∀ w4 w5 : Int32, w4.toInt = w32 (x4.toInt + vw h (if u = 0 then 104 else 105) (k : Nat)) → w5.toInt = w32 ((k : Int) + 1) → Pt n X zM270 6 [some (.ref 72), some (.int x1), some (.int x2), some (.int x3), some (.int w4), some (.int w5)] [] h (qI (fun r h' => h' = h ∧ r = w32 (mSm (vw h) f y (if u = 0 then 104 else 105) (vw h 72 19).toNat))) := by
      intro e z w4 w5 g4 g
      replace g := w_1 g (by omega) (by omega)
      refine ih x1 x2 x3 w4 w5 (k + 1) h1 h2 h3 ?_ (by omega) (by omega)
      rw [mSm_s, pI_t z, g4, h4, w32_add]
    refine d270_6 S h1 h2 h3 rfl h5 ⟨fun e => ⟨rfl, ?_⟩, fun e p q => ⟨fun z w5 g => skip e (fun w => w.1 z) w5 g, fun z => ⟨fun z2 w5 g => skip e (fun w => z2 w.2.1) w5 g, fun z2 => ⟨fun z3 w5 g => skip e (fun w => z3 w.2.2) w5 g, fun z3 => ⟨fun z4 w4 w5 g4 g => take e ⟨z, z2, z3⟩ w4 w5 (by rw [g4, if_pos z4]) g, fun z4 w4 w5 g4 g => take e ⟨z, z2, z3⟩ w4 w5 (by rw [g4, if_neg z4]) g⟩⟩⟩⟩⟩
    rw [h4, show (vw h 72 19).toNat = k by omega]
theorem c_270 {n : Nat} {X : aX} {h : aH} {x1 x2 x3 : Int32} {a1 a2 a3 : Int} (S : wS h) (z1 : x1.toInt = a1) (z2 : x2.toInt = a2) (z3 : x3.toInt = a3) (hN : 0 ≤ vw h 72 19 ∧ vw h 72 19 ≤ 300) : Pt n X zM270 0 [some (.ref 72), some (.int x1), some (.int x2), some (.int x3), none, none] [] h (qI (fun r h' => h' = h ∧ r = w32 (mSm (vw h) a1 a2 (if a3 = 0 then 104 else 105) (vw h 72 19).toNat))) :=
  pt_d (d270_0 S z1 z2 z3 (fun w4 w5 g4 g5 => l_270 S hN n x1 x2 x3 w4 w5 0 z1 z2 z3 (by rw [g4]; rfl) g5 hN.1))

theorem d271_0 {n : Nat} {X : aX} {h : aH} {P : Int → aH → Prop} {x1 x2 : Int32} {a1 a2 : Int} (S : wS h) (z1 : x1.toInt = a1) (z2 : x2.toInt = a2) (H : ((0 ≤ vw h 72 19 ∧ vw h 72 19 ≤ 300) ∧ ((0 ≤ vw h 72 19 ∧ vw h 72 19 ≤ 300) ∧ ((w32 (mSm (vw h) a1 a2 (if (1 : Int) = 0 then 104 else 105) ((vw h) 72 19).toNat) ≠ 0 → P (min 999 (iDiv (w32 (100 * (w32 ((w32 (mSm (vw h) a1 a2 (if (0 : Int) = 0 then 104 else 105) ((vw h) 72 19).toNat)) - (w32 (mSm (vw h) a1 a2 (if (1 : Int) = 0 then 104 else 105) ((vw h) 72 19).toNat)))))) (w32 (mSm (vw h) a1 a2 (if (1 : Int) = 0 then 104 else 105) ((vw h) 72 19).toNat)))) h) ∧ (w32 (mSm (vw h) a1 a2 (if (1 : Int) = 0 then 104 else 105) ((vw h) 72 19).toNat) = 0 → ((w32 (mSm (vw h) a1 a2 (if (0 : Int) = 0 then 104 else 105) ((vw h) 72 19).toNat) ≠ 0 → P 999 h) ∧ (w32 (mSm (vw h) a1 a2 (if (0 : Int) = 0 then 104 else 105) ((vw h) 72 19).toNat) = 0 → P 0 h))))))) : Pt (n + 1) X zM271 0 [some (.ref 72), some (.int x1), some (.int x2), none, none] [] h (qI P) := by
  refine pt_1 (fun n d => r_aloadn gx271_0 rfl) ?_
  refine pt_d (pt_1 (fun n d => r_iloadn gx271_1 rfl) ?_)
  refine pt_d (pt_1 (fun n d => r_iloadn gx271_2 rfl) ?_)
  refine pt_d (pt_iconst gx271_3 (fun v1 h1 => ?_))
  obtain ⟨pr2, H⟩ := H
  refine pt_d (pt_virt (as := [.int x1, .int x2, .int v1]) (r := []) gx271_4 rfl (show zmt[270]? = some zM270 from rfl) rfl rfl rfl rfl (c_270 S z1 z2 h1 pr2) (kqP (fun v2 h2 => ?_)))
  show Pt _ _ _ 7 _ [.int v2] _ _
  refine pt_d (pt_1 (fun n d => r_istoren (L' := [some (.ref 72), some (.int x1), some (.int x2), some (.int v2), none]) gx271_7 rfl rfl) ?_)
  refine pt_d (pt_1 (fun n d => r_aloadn gx271_8 rfl) ?_)
  refine pt_d (pt_1 (fun n d => r_iloadn gx271_9 rfl) ?_)
  refine pt_d (pt_1 (fun n d => r_iloadn gx271_10 rfl) ?_)
  refine pt_d (pt_iconst gx271_11 (fun v3 h3 => ?_))
  obtain ⟨pr4, H⟩ := H
  refine pt_d (pt_virt (as := [.int x1, .int x2, .int v3]) (r := []) gx271_12 rfl (show zmt[270]? = some zM270 from rfl) rfl rfl rfl rfl (c_270 S z1 z2 h3 pr4) (kqP (fun v4 h4 => ?_)))
  show Pt _ _ _ 15 _ [.int v4] _ _
  refine pt_d (pt_1 (fun n d => r_istore (L' := [some (.ref 72), some (.int x1), some (.int x2), some (.int v2), some (.int v4)]) gx271_15 rfl rfl) ?_)
  refine pt_d (pt_1 (fun n d => r_iload gx271_17 rfl) ?_)
  refine pt_d (pt_if_ne gx271_19 h4 (fun e5 => ?_) (fun e5 => ?_))
  · have H := H.1 e5
    refine pt_d (pt_sipush gx271_34 (fun v6 h6 => ?_))
    refine pt_d (pt_bipush gx271_37 (fun v7 h7 => ?_))
    refine pt_d (pt_1 (fun n d => r_iloadn gx271_39 rfl) ?_)
    refine pt_d (pt_1 (fun n d => r_iload gx271_40 rfl) ?_)
    refine pt_d (pt_isub gx271_42 h2 h4 (fun v8 h8 => ?_))
    refine pt_d (pt_imul gx271_43 h7 h8 (fun v9 h9 => ?_))
    refine pt_d (pt_1 (fun n d => r_iload gx271_44 rfl) ?_)
    refine pt_d (pt_idiv gx271_46 h9 h4 (fun v10 h10 => ?_))
    refine pt_d (pt_stat (as := [.int v6, .int v10]) (r := []) gx271_47 rfl (show zmt[211]? = some zM211 from rfl) rfl rfl rfl rfl (c_211 S h6 h10) (kqP (fun v11 h11 => ?_)))
    show Pt _ _ _ 50 _ [.int v11] _ _
    exact pt_d (pt_iret gx271_50 ⟨_, rfl, by rw [h11]; exact H⟩)
  · have H := H.2 e5
    refine pt_d (pt_1 (fun n d => r_iloadn gx271_22 rfl) ?_)
    refine pt_d (pt_if_ne gx271_23 h2 (fun e12 => ?_) (fun e12 => ?_))
    · have H := H.1 e12
      refine pt_d (pt_sipush gx271_30 (fun v13 h13 => ?_))
      exact pt_d (pt_iret gx271_33 ⟨_, rfl, by rw [h13]; exact H⟩)
    · have H := H.2 e12
      refine pt_d (pt_iconst gx271_26 (fun v14 h14 => ?_))
      refine pt_d (pt_1 (fun n d => r_goto gx271_27) ?_)
      exact pt_d (pt_iret gx271_33 ⟨_, rfl, by rw [h14]; exact H⟩)
noncomputable def mErr (V : vS) (f y : Int) : Int := if w32 (mSm V f y 105 (V 72 19).toNat) = 0 then (if w32 (mSm V f y 104 (V 72 19).toNat) = 0 then 0 else 999) else min 999 (iDiv (w32 (100 * w32 (w32 (mSm V f y 104 (V 72 19).toNat) - w32 (mSm V f y 105 (V 72 19).toNat)))) (w32 (mSm V f y 105 (V 72 19).toNat)))
theorem c_271 {n : Nat} {X : aX} {h : aH} {x1 x2 : Int32} {a1 a2 : Int} (S : wS h) (z1 : x1.toInt = a1) (z2 : x2.toInt = a2) (hN : 0 ≤ vw h 72 19 ∧ vw h 72 19 ≤ 300) : Pt n X zM271 0 [some (.ref 72), some (.int x1), some (.int x2), none, none] [] h (qI (fun r h' => h' = h ∧ r = mErr (vw h) a1 a2)) := by
  refine pt_d (d271_0 S z1 z2 ⟨hN, hN, ?_⟩)
  rw [if_neg (show ¬ (1 : Int) = 0 by decide), if_pos (show (0 : Int) = 0 from rfl)]
  refine ⟨fun e => ⟨rfl, ?_⟩, fun e => ⟨fun e2 => ⟨rfl, ?_⟩, fun e2 => ⟨rfl, ?_⟩⟩⟩
  · unfold mErr
    rw [if_neg e]
  · unfold mErr
    rw [if_pos e, if_neg e2]
  · unfold mErr
    rw [if_pos e, if_pos e2]
noncomputable def cErr (V : vS) (q : Nat) (f : Int) : Int := if w32 (V (q + 5) f - V (q + 6) f) = 0 then (if V (q + 5) f = 0 then 0 else 999) else min 999 (iDiv (w32 (100 * V (q + 6) f)) (w32 (V (q + 5) f - V (q + 6) f)))
def PR102 (V : vS) (q : Nat) : Prop := V q 10 = ((q + 5 : Nat) : Int) ∧ V q 11 = ((q + 6 : Nat) : Int)

theorem d102_0 {n : Nat} {X : aX} {h : aH} {P : Int → aH → Prop} {x1 : Int32} {a1 : Int} {q0 : Nat} (S : wS h) (z1 : x1.toInt = a1) (H : ((vw h) q0 10 = (((q0 + 5) : Nat) : Int) ∧ (0 ≤ a1 → ((vw h) q0 11 = (((q0 + 6) : Nat) : Int) ∧ (0 ≤ a1 → ((w32 ((vw h (q0 + 5) a1) - (vw h (q0 + 6) a1)) ≠ 0 → ((vw h) q0 11 = (((q0 + 6) : Nat) : Int) ∧ (0 ≤ a1 → P (min 999 (iDiv (w32 (100 * (vw h (q0 + 6) a1))) (w32 ((vw h (q0 + 5) a1) - (vw h (q0 + 6) a1))))) h))) ∧ (w32 ((vw h (q0 + 5) a1) - (vw h (q0 + 6) a1)) = 0 → ((vw h) q0 10 = (((q0 + 5) : Nat) : Int) ∧ (0 ≤ a1 → ((vw h (q0 + 5) a1 ≠ 0 → P 999 h) ∧ (vw h (q0 + 5) a1 = 0 → P 0 h))))))))))) : Pt (n + 1) X zM102 0 [some (.ref q0), some (.int x1), none] [] h (qI P) := by
  refine pt_1 (fun n d => r_aloadn gx102_0 rfl) ?_
  obtain ⟨pr1, H⟩ := H
  refine pt_d (pt_getK (B := 10) gx102_1 S (pr1) ?_)
  refine pt_d (pt_1 (fun n d => r_iloadn gx102_4 rfl) ?_)
  refine pt_d (pt_ialdD gx102_5 z1 (fun v2 p2 h2 => ?_))
  have H := H p2
  refine pt_d (pt_1 (fun n d => r_aloadn gx102_6 rfl) ?_)
  obtain ⟨pr3, H⟩ := H
  refine pt_d (pt_getK (B := 11) gx102_7 S (pr3) ?_)
  refine pt_d (pt_1 (fun n d => r_iloadn gx102_10 rfl) ?_)
  refine pt_d (pt_ialdD gx102_11 z1 (fun v4 p4 h4 => ?_))
  have H := H p4
  refine pt_d (pt_isub gx102_12 h2 h4 (fun v5 h5 => ?_))
  refine pt_d (pt_1 (fun n d => r_istoren (L' := [some (.ref q0), some (.int x1), some (.int v5)]) gx102_13 rfl rfl) ?_)
  refine pt_d (pt_1 (fun n d => r_iloadn gx102_14 rfl) ?_)
  refine pt_d (pt_if_ne gx102_15 h5 (fun e6 => ?_) (fun e6 => ?_))
  · have H := H.1 e6
    refine pt_d (pt_sipush gx102_35 (fun v7 h7 => ?_))
    refine pt_d (pt_bipush gx102_38 (fun v8 h8 => ?_))
    refine pt_d (pt_1 (fun n d => r_aloadn gx102_40 rfl) ?_)
    obtain ⟨pr9, H⟩ := H
    refine pt_d (pt_getK (B := 11) gx102_41 S (pr9) ?_)
    refine pt_d (pt_1 (fun n d => r_iloadn gx102_44 rfl) ?_)
    refine pt_d (pt_ialdD gx102_45 z1 (fun v10 p10 h10 => ?_))
    have H := H p10
    refine pt_d (pt_imul gx102_46 h8 h10 (fun v11 h11 => ?_))
    refine pt_d (pt_1 (fun n d => r_iloadn gx102_47 rfl) ?_)
    refine pt_d (pt_idiv gx102_48 h11 h5 (fun v12 h12 => ?_))
    refine pt_d (pt_min gx102_49 rfl h7 h12 (fun v13 h13 => ?_))
    exact pt_d (pt_iret gx102_52 ⟨_, rfl, by rw [h13]; exact H⟩)
  · have H := H.2 e6
    refine pt_d (pt_1 (fun n d => r_aloadn gx102_18 rfl) ?_)
    obtain ⟨pr14, H⟩ := H
    refine pt_d (pt_getK (B := 10) gx102_19 S (pr14) ?_)
    refine pt_d (pt_1 (fun n d => r_iloadn gx102_22 rfl) ?_)
    refine pt_d (pt_ialdD gx102_23 z1 (fun v15 p15 h15 => ?_))
    have H := H p15
    refine pt_d (pt_if_ne gx102_24 h15 (fun e16 => ?_) (fun e16 => ?_))
    · have H := H.1 e16
      refine pt_d (pt_sipush gx102_31 (fun v17 h17 => ?_))
      exact pt_d (pt_iret gx102_34 ⟨_, rfl, by rw [h17]; exact H⟩)
    · have H := H.2 e16
      refine pt_d (pt_iconst gx102_27 (fun v18 h18 => ?_))
      refine pt_d (pt_1 (fun n d => r_goto gx102_28) ?_)
      exact pt_d (pt_iret gx102_34 ⟨_, rfl, by rw [h18]; exact H⟩)
theorem c_102 {n : Nat} {X : aX} {h : aH} {x1 : Int32} {a1 : Int} {q0 : Nat} (S : wS h) (z1 : x1.toInt = a1) (hp : PR102 (vw h) q0) : Pt n X zM102 0 [some (.ref q0), some (.int x1), none] [] h (qI (fun r h' => h' = h ∧ r = cErr (vw h) q0 a1)) := by
  refine pt_d (d102_0 S z1 ⟨hp.1, fun _ => ⟨hp.2, fun _ => ⟨fun e => ⟨hp.2, fun _ => ⟨rfl, ?_⟩⟩, fun e => ⟨hp.1, fun _ => ⟨fun e2 => ⟨rfl, ?_⟩, fun e2 => ⟨rfl, ?_⟩⟩⟩⟩⟩⟩)
  · unfold cErr
    rw [if_neg e]
  · unfold cErr
    rw [if_pos e, if_neg e2]
  · unfold cErr
    rw [if_pos e, if_pos e2]
end
section
-- ===== the rate of errors =====
-- sums by permutation
theorem sgm_z : ∀ n : Nat, sgm (fun _ => 0) n = 0
  | 0 => rfl
  | n + 1 => by rw [sgm_s, sgm_z n]; rfl
theorem sgm_add (f g : Int → Int) : ∀ n : Nat, sgm (fun j => f j + g j) n = sgm f n + sgm g n
  | 0 => rfl
  | n + 1 => by
    rw [sgm_s, sgm_s, sgm_s, sgm_add f g n]
    omega
theorem sgm_swap (F : Int → Int → Int) (m : Nat) : ∀ n : Nat, sgm (fun i => sgm (fun j => F i j) m) n = sgm (fun j => sgm (fun i => F i j) n) m
  | 0 => (sgm_z m).symm
  | n + 1 => by
    rw [sgm_s, sgm_swap F m n, ← sgm_add]
    exact sgm_c m (fun j _ _ => rfl)
theorem sgm_one (x : Int → Int) (a : Int) : ∀ n : Nat, sgm (fun j => pI (j = a) (x j)) n = pI (0 ≤ a ∧ a < (n : Int)) (x a)
  | 0 => (pI_f (by omega)).symm
  | n + 1 => by
    rw [sgm_s, sgm_one x a n]
    by_cases z : (n : Int) = a
    · rw [pI_f (by omega), pI_t z, pI_t (by omega), z, Int.zero_add]
    · rw [pI_f z, Int.add_zero]
      exact pI_c (by omega) (fun _ => rfl)
theorem sgm_perm {s : Int → Int} {N : Nat} (r : ∀ p, 0 ≤ p → p < (N : Int) → 0 ≤ s p ∧ s p < (N : Int)) (i : ∀ p p', 0 ≤ p → p < (N : Int) → 0 ≤ p' → p' < (N : Int) → s p = s p' → p = p') (u : ∀ c, 0 ≤ c → c < (N : Int) → ∃ p, (0 ≤ p ∧ p < (N : Int)) ∧ s p = c) (g : Int → Int) : sgm (fun p => g (s p)) N = sgm g N := by
  have e1 : sgm (fun p => g (s p)) N = sgm (fun p => sgm (fun c => pI (c = s p) (g c)) N) N := sgm_c N (fun p a b => by rw [sgm_one, pI_t (r p a b)])
  have e2 : sgm (fun c => sgm (fun p => pI (c = s p) (g c)) N) N = sgm g N := sgm_c N (fun c a b => by
    obtain ⟨p0, ⟨h0, h1⟩, e⟩ := u c a b
    rw [sgm_c (g := fun p => pI (p = p0) (g c)) N (fun p a' b' => pI_c ⟨fun z => i p p0 a' b' h0 h1 (z.symm.trans e.symm), fun z => by rw [z, e]⟩ (fun _ => rfl)), sgm_one (fun _ => g c), pI_t ⟨h0, h1⟩])
  rw [e1, sgm_swap, e2]
theorem lis_sum {V : vS} {q : Nat} {y k : Int} (L : lis V q y k) (F : Int → Int) : ∀ P : Nat, (P : Int) ≤ V 16 1 → sgm (fun i => F (V (q + 1) i)) (cnN V y k P) = sgm (fun p => pI (cnt V p y k) (F (V 21 p))) P
  | 0, _ => rfl
  | P + 1, h => by
    have ih := lis_sum L F P (by omega)
    by_cases z : cnt V (P : Nat) y k
    · rw [cnN_t z, sgm_s, sgm_s, ih, pI_t z, L.2 P (by omega) z]
    · rw [cnN_f z, sgm_s, pI_f z, Int.add_zero]
      exact ih
theorem ord_inj {V : vS} (O : JOrd V) : ∀ p p', 0 ≤ p → p < V 16 1 → 0 ≤ p' → p' < V 16 1 → V 21 p = V 21 p' → p = p' := fun p p' a b a' b' e => by
  rcases Int.lt_trichotomy p p' with z | z | z
  · have := O.2.1 p p' a z b'
    unfold lxl at this
    rw [e] at this
    omega
  · exact z
  · have := O.2.1 p' p a' z b
    unfold lxl at this
    rw [e] at this
    omega
theorem all_sum {V : vS} {q : Nat} {y k : Int} (E : EQ V) (L : lis V q y k) (F : Int → Int) : sgm (fun i => F (V (q + 1) i)) (V q 5).toNat = sgm (fun c => pI (LkM V k y c) (F c)) (V 72 19).toNat := by
  obtain ⟨C, B, Od, hd, -⟩ := E
  have hN := C.2.2.2.2.2.1
  have eN : (((V 16 1).toNat : Nat) : Int) = V 16 1 := by omega
  have s1 := lis_sum L F (V 16 1).toNat (by omega)
  rw [L.1, Int.toNat_natCast, s1, ← C.1]
  have s2 : sgm (fun p => pI (cnt V p y k) (F (V 21 p))) (V 16 1).toNat = sgm (fun p => pI (LkM V k y (V 21 p)) (F (V 21 p))) (V 16 1).toNat := sgm_c _ (fun p a b => pI_c (cnt_l C B Od hd a (by omega)) (fun _ => rfl))
  rw [s2]
  refine sgm_perm (s := fun p => V 21 p) (fun p a b => ?_) (fun p p' a b a' b' => ?_) (fun c a b => ?_) (fun c => pI (LkM V k y c) (F c))
  · have := Od.1 p a (by omega)
    exact ⟨this.1, by omega⟩
  · exact ord_inj Od p p' a (by omega) a' (by omega)
  · obtain ⟨p, hp, e⟩ := Od.2.2.1 c a (by omega)
    exact ⟨p, ⟨hp.1, by omega⟩, e⟩
theorem sgm_b {f : Int → Int} {B : Int} : ∀ n : Nat, (∀ j : Int, 0 ≤ j → j < (n : Int) → 0 ≤ f j ∧ f j ≤ B) → 0 ≤ sgm f n ∧ sgm f n ≤ B * (n : Int)
  | 0, _ => ⟨Int.le_refl _, by show (0 : Int) ≤ B * ((0 : Nat) : Int); rw [Int.natCast_zero, Int.mul_zero]; exact Int.le_refl _⟩
  | n + 1, h => by
    have ih := sgm_b n (fun j a b => h j a (by omega))
    have hn := h (n : Nat) (by omega) (by omega)
    rw [sgm_s, Int.natCast_add, Int.mul_add, show B * ((1 : Nat) : Int) = B from Int.mul_one B]
    omega
theorem sgm_sub (f g : Int → Int) : ∀ n : Nat, sgm (fun j => f j - g j) n = sgm f n - sgm g n
  | 0 => rfl
  | n + 1 => by
    rw [sgm_s, sgm_s, sgm_s, sgm_sub f g n]
    omega
theorem pI_p {p p' : Prop} {x : Int} : pI p (pI p' x) = pI (p ∧ p') x := by
  by_cases h : p
  · by_cases h' : p'
    · rw [pI_t h, pI_t h', pI_t ⟨h, h'⟩]
    · rw [pI_t h, pI_f h', pI_f (fun z => h' z.2)]
  · rw [pI_f h, pI_f (fun z => h z.1)]
theorem pI_b {p : Prop} {x B : Int} (h : 0 ≤ x ∧ x ≤ B) : 0 ≤ pI p x ∧ pI p x ≤ B := by
  by_cases z : p
  · rw [pI_t z]; exact h
  · rw [pI_f z]; omega
-- what a farm has in a year, on both sides
noncomputable def vL (V : vS) (k c : Int) : Int := min (vG V k c) (mmg V c k (V 72 32).toNat)
noncomputable def fSm (V : vS) (k y f : Int) (g : Int → Int) : Int := sgm (fun c => pI (LkM V k y c ∧ V 87 c = f) (g c)) (V 72 19).toNat
theorem size_v {V : vS} {q : Nat} {y k : Int} (A : AP V) (S : scK V q y k) {i : Int} (i0 : 0 ≤ i) (iN : i < V q 5) : V (q + 2) i = vG V k (V (q + 1) i) ∧ V (q + 3) i = vL V k (V (q + 1) i) := by
  obtain ⟨E, O, K, N, -⟩ := A
  have E0 := E
  obtain ⟨C, B, Od, hd, -⟩ := E0
  obtain ⟨⟨q2, q3⟩, L, sz, fl, ls, -⟩ := S
  obtain ⟨p, pN, zc, ci, e⟩ := li_s L i0 iN
  have l0 := (cnt_l C B Od hd (by omega) pN).mp zc
  rw [← e] at l0
  have sv : V (q + 2) i = vG V k (V (q + 1) i) := by
    unfold vG
    rw [sz i i0 iN, l0.2]
    exact size_e E L O N.2.1 N.2.2 q2 q3 i0 iN 24 (Nat.le_refl _)
  refine ⟨sv, ?_⟩
  have me : msg V (V (q + 1) i) y k (V 16 3).toNat = mmg V (V (q + 1) i) k (V 72 32).toNat := by
    rw [← l0.2, msg_e C K, K.1]
  unfold vL
  rw [ls i i0 iN, sv, me]
theorem tot_e {V : vS} {q : Nat} {y k f : Int} (A : AP V) (S : scK V q y k) (hf : 0 ≤ f ∧ f < 150) : V (q + 5) f = fSm V k y f (vG V k) ∧ V (q + 6) f = fSm V k y f (vL V k) ∧ (0 ≤ V (q + 5) f ∧ V (q + 5) f ≤ 172800) ∧ 0 ≤ V (q + 6) f ∧ V (q + 6) f ≤ V (q + 5) f := by
  have S0 := S
  have E := A.1
  have K := A.2.2.1
  obtain ⟨-, L, -, -, -, T⟩ := S
  obtain ⟨t5, t6, -⟩ := T f hf.1 hf.2
  have C := E.1
  have hN : 0 ≤ V 72 19 ∧ V 72 19 ≤ 300 := by rw [← C.1]; exact C.2.2.2.2.2
  have st : ∀ (r : Nat) (g : Int → Int), (∀ i, 0 ≤ i → i < V q 5 → V r i = g (V (q + 1) i)) → tSm V q r f (V q 5).toNat = fSm V k y f g := fun r g h => by
    unfold tSm fSm
    have e1 : sgm (fun i => pI (fmA V (q + 1) i = f) (V r i)) (V q 5).toNat = sgm (fun i => (fun c => pI (V 17 c = f) (g c)) (V (q + 1) i)) (V q 5).toNat := sgm_c _ (fun i a b => pI_c (by unfold fmA; exact Iff.rfl) (fun _ => h i a (by omega)))
    refine e1.trans ((all_sum E L (fun c => pI (V 17 c = f) (g c))).trans ?_)
    refine sgm_c _ (fun c _ _ => ?_)
    show pI (LkM V k y c) (pI (V 17 c = f) (g c)) = _
    rw [pI_p, C.2.1]
  have gb : ∀ c, 0 ≤ vG V k c ∧ vG V k c ≤ 576 := fun c => nQ_b _ 576
  have mb : ∀ c, 0 ≤ mmg V c k (V 72 32).toNat := fun c => by
    rw [← K.1, ← msg_e C K]
    exact (msg_b A.2.2.2.1.1 c _ k _).1
  have lb : ∀ c, 0 ≤ vL V k c ∧ vL V k c ≤ 576 := fun c => by
    have := gb c
    have := mb c
    unfold vL
    omega
  have b5 := sgm_b (B := 576) (V 72 19).toNat (fun c (_ : 0 ≤ c) _ => pI_b (p := LkM V k y c ∧ V 87 c = f) (gb c))
  have b6 := sgm_b (B := 576) (V 72 19).toNat (fun c (_ : 0 ≤ c) _ => pI_b (p := LkM V k y c ∧ V 87 c = f) (lb c))
  have bd := sgm_b (B := 576) (f := fun c => pI (LkM V k y c ∧ V 87 c = f) (vG V k c) - pI (LkM V k y c ∧ V 87 c = f) (vL V k c)) (V 72 19).toNat (fun c _ _ => by
    have := gb c
    have := mb c
    by_cases z : LkM V k y c ∧ V 87 c = f
    · rw [pI_t z, pI_t z]
      unfold vL
      omega
    · rw [pI_f z, pI_f z]
      omega)
  rw [sgm_sub] at bd
  rw [st (q + 2) (vG V k) (fun i a b => (size_v A S0 a b).1)] at t5
  rw [st (q + 3) (vL V k) (fun i a b => (size_v A S0 a b).2)] at t6
  unfold fSm at t5 t6 ⊢
  rw [w32_id (by omega) (by omega)] at t5 t6
  exact ⟨t5, t6, by omega, by omega⟩
end
section
-- ===== the rate of errors =====
-- what a reckoning holds, read by farm
def rkd (V W : vS) (k : Int) : Prop := (W 72 19 = V 72 19 ∧ (∀ c, W 87 c = V 87 c) ∧ ∀ c, W 90 c = V 90 c) ∧ (∀ c, 0 ≤ c → c < V 72 19 → W 103 c = bI (mcn V c k)) ∧ ∀ c, 0 ≤ c → c < V 72 19 → mcn V c k → 0 ≤ iDiv (V 90 c) 365 → iDiv (V 90 c) 365 < 10 → W 104 c = vG V k c ∧ W 105 c = vF V k c
theorem rkd_R {V W : vS} {k : Int} (R : R239 V k W) : rkd V W k := ⟨⟨agR_y R.1.1 (by decide) (by decide), fun c => agR_x R.1.1 87 c (by decide) (by decide), fun c => agR_x R.1.1 90 c (by decide) (by decide)⟩, R.1.2.2, fun c a b m y0 y1 => ⟨(R.2 c a b m y0 y1).1, (R.2 c a b m y0 y1).2.2⟩⟩
theorem mSm_e {V W : vS} {k y f : Int} (R : rkd V W k) (hy : 0 ≤ y ∧ y ≤ 9) {r : Nat} {g : Int → Int} (hr : ∀ c, 0 ≤ c → c < V 72 19 → mcn V c k → 0 ≤ iDiv (V 90 c) 365 → iDiv (V 90 c) 365 < 10 → W r c = g c) : mSm W f y r (W 72 19).toNat = fSm V k y f g := by
  obtain ⟨⟨e19, e87, e90⟩, a, -⟩ := R
  unfold mSm fSm
  rw [e19]
  refine sgm_c _ (fun c c0 cN => ?_)
  rw [e87, e90, a c c0 (by omega)]
  unfold LkM
  refine pI_c ⟨fun z => ⟨⟨?_, z.2.2⟩, z.2.1⟩, fun z => ⟨by rw [bI_t z.1.1]; decide, z.2, z.1.2⟩⟩ (fun z => ?_)
  · by_cases m : mcn V c k
    · exact m
    · exact absurd (bI_f m) z.1
  · have m : mcn V c k := by
      by_cases m : mcn V c k
      · exact m
      · exact absurd (bI_f m) z.1
    exact hr c c0 (by omega) m (by rw [z.2.2]; exact hy.1) (by rw [z.2.2]; omega)
theorem err_e {V W : vS} {q : Nat} {y k f : Int} (A : AP V) (S : scK V q y k) (R : rkd V W k) (hy : 0 ≤ y ∧ y ≤ 9) (hf : 0 ≤ f ∧ f < 150) : cErr V q f = mErr W f y := by
  obtain ⟨t5, t6, b5, b6⟩ := tot_e A S hf
  have s4 := mSm_e (f := f) R hy (r := 104) (g := vG V k) (fun c a b m y0 y1 => (R.2.2 c a b m y0 y1).1)
  have s5 := mSm_e (f := f) R hy (r := 105) (g := vF V k) (fun c a b m y0 y1 => (R.2.2 c a b m y0 y1).2)
  have K := A.2.2.1
  have C := A.1.1
  have gb : ∀ c, 0 ≤ vG V k c ∧ vG V k c ≤ 576 := fun c => nQ_b _ 576
  have mb : ∀ c, 0 ≤ mmg V c k (V 72 32).toNat ∧ mmg V c k (V 72 32).toNat ≤ 576 := fun c => by
    rw [← K.1, ← msg_e C K]
    exact msg_b A.2.2.2.1.1 c _ k _
  have fd : fSm V k y f (vF V k) = fSm V k y f (vG V k) - fSm V k y f (vL V k) := by
    unfold fSm
    rw [← sgm_sub]
    refine sgm_c _ (fun c _ _ => ?_)
    by_cases z : LkM V k y c ∧ V 87 c = f
    · rw [pI_t z, pI_t z, pI_t z]
      have := gb c
      have := mb c
      unfold vF vL
      rw [w32_id (by omega) (by omega)]
      split <;> omega
    · rw [pI_f z, pI_f z, pI_f z]
      rfl
  unfold cErr mErr
  rw [s4, s5, fd, ← t5, ← t6, w32_id (z := V (q + 5) f) (by omega) (by omega), w32_id (z := V (q + 5) f - V (q + 6) f) (by omega) (by omega), w32_id (z := V (q + 5) f - (V (q + 5) f - V (q + 6) f)) (by omega) (by omega), show V (q + 5) f - (V (q + 5) f - V (q + 6) f) = V (q + 6) f by omega]
end
section
-- ===== the rate of errors =====
-- powers and chances, as both sides reckon them
def pwF (b : Int) : Nat → Int
  | 0 => 1
  | k + 1 => w64 (pwF b k * b)
def cWy (n : Int) : Nat → Int
  | 0 => 1
  | i + 1 => jDiv (w64 (cWy n i * w32 (n - (i : Nat)))) (w32 ((i : Nat) + 1))
def mWi (d : Int) : Nat → Int
  | 0 => 1
  | j + 1 => jDiv (w64 (mWi d j * w32 (d + ((j : Nat) + 1)))) ((j : Nat) + 1)
def mWy (n : Int) (k : Nat) : Int := mWi (w32 (n - (k : Nat))) k
def tCh (W : Nat → Int) (n p : Int) (i : Nat) : Int := w64 (w64 (W i * pwF p i) * pwF (w32 (100 - p)) (w32 (n - (i : Nat))).toNat)
def gSm (t : Nat → Int) (a b : Int) : Nat → Int
  | 0 => 0
  | i + 1 => if a ≤ (i : Int) ∧ (i : Int) ≤ b then w64 (gSm t a b i + t i) else gSm t a b i
theorem ways_e : ∀ n i : Fin 9, i.val ≤ n.val → cWy (n.val : Int) i.val = mWy (n.val : Int) i.val := by decide +kernel
theorem gSm_c {t t' : Nat → Int} {a b : Int} : ∀ k : Nat, (∀ i, i < k → t i = t' i) → gSm t a b k = gSm t' a b k
  | 0, _ => rfl
  | k + 1, h => by
    have e : ∀ t : Nat → Int, gSm t a b (k + 1) = if a ≤ (k : Int) ∧ (k : Int) ≤ b then w64 (gSm t a b k + t k) else gSm t a b k := fun _ => rfl
    rw [e, e, gSm_c k (fun i hi => h i (by omega)), h k (by omega)]
theorem gSm_stop {t : Nat → Int} {a b : Int} {m : Nat} (hm : (m : Int) = b + 1) : ∀ d : Nat, gSm t a b (m + d) = gSm t a b m
  | 0 => rfl
  | d + 1 => by
    have e : gSm t a b (m + d + 1) = if a ≤ ((m + d : Nat) : Int) ∧ ((m + d : Nat) : Int) ≤ b then w64 (gSm t a b (m + d) + t (m + d)) else gSm t a b (m + d) := rfl
    rw [show m + (d + 1) = m + d + 1 from rfl, e, if_neg (by omega), gSm_stop hm d]
theorem gSm_low {t : Nat → Int} {a b : Int} : ∀ k : Nat, (k : Int) ≤ a → gSm t a b k = 0
  | 0, _ => rfl
  | k + 1, h => by
    have e : gSm t a b (k + 1) = if a ≤ (k : Int) ∧ (k : Int) ≤ b then w64 (gSm t a b k + t k) else gSm t a b k := rfl
    rw [e, if_neg (by omega), gSm_low k (by omega)]

theorem d69_0 {n : Nat} {X : aX} {h : aH} {P : Int → aH → Prop} {x2 : Int32} {x0 : Int64} {a2 a0 : Int} (S : wS h) (z0 : x0.toInt = a0) (z2 : x2.toInt = a2) (H : (∀ (w3 : Int64) (w5 : Int32), w3.toInt = 1 → w5.toInt = 0 → Pt n X zM69 5 [some (.long x0), none, some (.int x2), some (.long w3), none, some (.int w5)] [] h (qJ P))) : Pt (n + 1) X zM69 0 [some (.long x0), none, some (.int x2), none, none, none] [] h (qJ P) := by
  refine pt_lconst (c := 1) gx69_0 rfl (fun v1 h1 => ?_)
  refine pt_d (pt_1 (fun n d => r_lstoren (L' := [some (.long x0), none, some (.int x2), some (.long v1), none, none]) gx69_1 rfl rfl) ?_)
  refine pt_d (pt_iconst gx69_2 (fun v2 h2 => ?_))
  refine pt_d (pt_1 (fun n d => r_istore (L' := [some (.long x0), none, some (.int x2), some (.long v1), none, some (.int v2)]) gx69_3 rfl rfl) ?_)
  exact H v1 v2 h1 h2
theorem d69_5 {n : Nat} {X : aX} {h : aH} {P : Int → aH → Prop} {x2 x5 : Int32} {x0 x3 : Int64} {a2 a5 a0 a3 : Int} (S : wS h) (z0 : x0.toInt = a0) (z2 : x2.toInt = a2) (z3 : x3.toInt = a3) (z5 : x5.toInt = a5) (H : ((a2 ≤ a5 → P a3 h) ∧ (a5 < a2 → (∀ (w3 : Int64) (w5 : Int32), w3.toInt = w64 (a3 * a0) → w5.toInt = w32 (a5 + 1) → Pt n X zM69 5 [some (.long x0), none, some (.int x2), some (.long w3), none, some (.int w5)] [] h (qJ P))))) : Pt (n + 1) X zM69 5 [some (.long x0), none, some (.int x2), some (.long x3), none, some (.int x5)] [] h (qJ P) := by
  refine pt_1 (fun n d => r_iload gx69_5 rfl) ?_
  refine pt_d (pt_1 (fun n d => r_iloadn gx69_7 rfl) ?_)
  refine pt_d (pt_icmp_ge gx69_8 z5 z2 (fun e1 => ?_) (fun e1 => ?_))
  · have H := H.1 e1
    refine pt_d (pt_1 (fun n d => r_lloadn gx69_21 rfl) ?_)
    exact pt_d (pt_lret gx69_22 ⟨_, rfl, by rw [z3]; exact H⟩)
  · have H := H.2 e1
    refine pt_d (pt_1 (fun n d => r_lloadn gx69_11 rfl) ?_)
    refine pt_d (pt_1 (fun n d => r_lloadn gx69_12 rfl) ?_)
    refine pt_d (pt_lmul gx69_13 z3 z0 (fun v2 h2 => ?_))
    refine pt_d (pt_1 (fun n d => r_lstoren (L' := [some (.long x0), none, some (.int x2), some (.long v2), none, some (.int x5)]) gx69_14 rfl rfl) ?_)
    refine pt_d (pt_iinc (c := 1) gx69_15 rfl z5 (fun v3 h3 => ?_))
    show Pt _ _ _ _ [some (.long x0), none, some (.int x2), some (.long v2), none, some (.int v3)] [] _ _
    refine pt_d (pt_1 (fun n d => r_goto gx69_18) ?_)
    exact H v2 v3 h2 h3
theorem d296_0 {n : Nat} {X : aX} {h : aH} {P : Int → aH → Prop} {x2 : Int32} {x0 : Int64} {a2 a0 : Int} (S : wS h) (z0 : x0.toInt = a0) (z2 : x2.toInt = a2) (H : (∀ (w3 : Int64) (w5 : Int32), w3.toInt = 1 → w5.toInt = 0 → Pt n X zM296 5 [some (.long x0), none, some (.int x2), some (.long w3), none, some (.int w5)] [] h (qJ P))) : Pt (n + 1) X zM296 0 [some (.long x0), none, some (.int x2), none, none, none] [] h (qJ P) := by
  refine pt_lconst (c := 1) gx296_0 rfl (fun v1 h1 => ?_)
  refine pt_d (pt_1 (fun n d => r_lstoren (L' := [some (.long x0), none, some (.int x2), some (.long v1), none, none]) gx296_1 rfl rfl) ?_)
  refine pt_d (pt_iconst gx296_2 (fun v2 h2 => ?_))
  refine pt_d (pt_1 (fun n d => r_istore (L' := [some (.long x0), none, some (.int x2), some (.long v1), none, some (.int v2)]) gx296_3 rfl rfl) ?_)
  exact H v1 v2 h1 h2
theorem d296_5 {n : Nat} {X : aX} {h : aH} {P : Int → aH → Prop} {x2 x5 : Int32} {x0 x3 : Int64} {a2 a5 a0 a3 : Int} (S : wS h) (z0 : x0.toInt = a0) (z2 : x2.toInt = a2) (z3 : x3.toInt = a3) (z5 : x5.toInt = a5) (H : ((a2 ≤ a5 → P a3 h) ∧ (a5 < a2 → (∀ (w3 : Int64) (w5 : Int32), w3.toInt = w64 (a3 * a0) → w5.toInt = w32 (a5 + 1) → Pt n X zM296 5 [some (.long x0), none, some (.int x2), some (.long w3), none, some (.int w5)] [] h (qJ P))))) : Pt (n + 1) X zM296 5 [some (.long x0), none, some (.int x2), some (.long x3), none, some (.int x5)] [] h (qJ P) := by
  refine pt_1 (fun n d => r_iload gx296_5 rfl) ?_
  refine pt_d (pt_1 (fun n d => r_iloadn gx296_7 rfl) ?_)
  refine pt_d (pt_icmp_ge gx296_8 z5 z2 (fun e1 => ?_) (fun e1 => ?_))
  · have H := H.1 e1
    refine pt_d (pt_1 (fun n d => r_lloadn gx296_21 rfl) ?_)
    exact pt_d (pt_lret gx296_22 ⟨_, rfl, by rw [z3]; exact H⟩)
  · have H := H.2 e1
    refine pt_d (pt_1 (fun n d => r_lloadn gx296_11 rfl) ?_)
    refine pt_d (pt_1 (fun n d => r_lloadn gx296_12 rfl) ?_)
    refine pt_d (pt_lmul gx296_13 z3 z0 (fun v2 h2 => ?_))
    refine pt_d (pt_1 (fun n d => r_lstoren (L' := [some (.long x0), none, some (.int x2), some (.long v2), none, some (.int x5)]) gx296_14 rfl rfl) ?_)
    refine pt_d (pt_iinc (c := 1) gx296_15 rfl z5 (fun v3 h3 => ?_))
    show Pt _ _ _ _ [some (.long x0), none, some (.int x2), some (.long v2), none, some (.int v3)] [] _ _
    refine pt_d (pt_1 (fun n d => r_goto gx296_18) ?_)
    exact H v2 v3 h2 h3
theorem l_69 {X : aX} {h : aH} {b m : Int} (S : wS h) (hm : m ≤ 1000) : ∀ (n : Nat) (x0 : Int64) (x2 : Int32) (x3 : Int64) (x5 : Int32) (k : Nat), x0.toInt = b → x2.toInt = m → x3.toInt = pwF b k → x5.toInt = (k : Int) → (k = 0 ∨ (k : Int) ≤ m) → Pt n X zM69 5 [some (.long x0), none, some (.int x2), some (.long x3), none, some (.int x5)] [] h (qJ (fun y h' => h' = h ∧ y = pwF b m.toNat)) := by
  intro n
  induction n with
  | zero => intros; exact pt_z
  | succ n ih =>
    intro x0 x2 x3 x5 k h0 h2 h3 h5 hk
    refine d69_5 S h0 h2 h3 h5 ⟨fun e => ⟨rfl, ?_⟩, fun e w3 w5 g3 g5 => ?_⟩
    · rw [show m.toNat = k by omega]
    · replace g5 := w_1 g5 (by omega) (by omega)
      exact ih x0 x2 w3 w5 (k + 1) h0 h2 g3 (by omega) (Or.inr (by omega))
theorem c_69 {n : Nat} {X : aX} {h : aH} {x2 : Int32} {x0 : Int64} {a2 a0 : Int} (S : wS h) (z0 : x0.toInt = a0) (z2 : x2.toInt = a2) (hp : a2 ≤ 1000) : Pt n X zM69 0 [some (.long x0), none, some (.int x2), none, none, none] [] h (qJ (fun y h' => h' = h ∧ y = pwF a0 a2.toNat)) :=
  pt_d (d69_0 S z0 z2 (fun w3 w5 g3 g5 => l_69 S hp n x0 x2 w3 w5 0 z0 z2 g3 g5 (Or.inl rfl)))

theorem l_296 {X : aX} {h : aH} {b m : Int} (S : wS h) (hm : m ≤ 1000) : ∀ (n : Nat) (x0 : Int64) (x2 : Int32) (x3 : Int64) (x5 : Int32) (k : Nat), x0.toInt = b → x2.toInt = m → x3.toInt = pwF b k → x5.toInt = (k : Int) → (k = 0 ∨ (k : Int) ≤ m) → Pt n X zM296 5 [some (.long x0), none, some (.int x2), some (.long x3), none, some (.int x5)] [] h (qJ (fun y h' => h' = h ∧ y = pwF b m.toNat)) := by
  intro n
  induction n with
  | zero => intros; exact pt_z
  | succ n ih =>
    intro x0 x2 x3 x5 k h0 h2 h3 h5 hk
    refine d296_5 S h0 h2 h3 h5 ⟨fun e => ⟨rfl, ?_⟩, fun e w3 w5 g3 g5 => ?_⟩
    · rw [show m.toNat = k by omega]
    · replace g5 := w_1 g5 (by omega) (by omega)
      exact ih x0 x2 w3 w5 (k + 1) h0 h2 g3 (by omega) (Or.inr (by omega))
theorem c_296 {n : Nat} {X : aX} {h : aH} {x2 : Int32} {x0 : Int64} {a2 a0 : Int} (S : wS h) (z0 : x0.toInt = a0) (z2 : x2.toInt = a2) (hp : a2 ≤ 1000) : Pt n X zM296 0 [some (.long x0), none, some (.int x2), none, none, none] [] h (qJ (fun y h' => h' = h ∧ y = pwF a0 a2.toNat)) :=
  pt_d (d296_0 S z0 z2 (fun w3 w5 g3 g5 => l_296 S hp n x0 x2 w3 w5 0 z0 z2 g3 g5 (Or.inl rfl)))

theorem d68_0 {n : Nat} {X : aX} {h : aH} {P : Int → aH → Prop} {x1 x2 x3 : Int32} {a1 a2 a3 : Int} (S : wS h) (z1 : x1.toInt = a1) (z2 : x2.toInt = a2) (z3 : x3.toInt = a3) (H : (∀ (w4 : Int64) (w6 : Int64) (w8 : Int32), w4.toInt = 0 → w6.toInt = 1 → w8.toInt = 0 → Pt n X zM68 9 [some (.ref 48), some (.int x1), some (.int x2), some (.int x3), some (.long w4), none, some (.long w6), none, some (.int w8)] [] h (qJ P))) : Pt (n + 1) X zM68 0 [some (.ref 48), some (.int x1), some (.int x2), some (.int x3), none, none, none, none, none] [] h (qJ P) := by
  refine pt_lconst (c := 0) gx68_0 rfl (fun v1 h1 => ?_)
  refine pt_d (pt_1 (fun n d => r_lstore (L' := [some (.ref 48), some (.int x1), some (.int x2), some (.int x3), some (.long v1), none, none, none, none]) gx68_1 rfl rfl) ?_)
  refine pt_d (pt_lconst (c := 1) gx68_3 rfl (fun v2 h2 => ?_))
  refine pt_d (pt_1 (fun n d => r_lstore (L' := [some (.ref 48), some (.int x1), some (.int x2), some (.int x3), some (.long v1), none, some (.long v2), none, none]) gx68_4 rfl rfl) ?_)
  refine pt_d (pt_iconst gx68_6 (fun v3 h3 => ?_))
  refine pt_d (pt_1 (fun n d => r_istore (L' := [some (.ref 48), some (.int x1), some (.int x2), some (.int x3), some (.long v1), none, some (.long v2), none, some (.int v3)]) gx68_7 rfl rfl) ?_)
  exact H v1 v2 v3 h1 h2 h3
theorem d68_9 {n : Nat} {X : aX} {h : aH} {P : Int → aH → Prop} {x1 x2 x3 x8 : Int32} {x4 x6 : Int64} {a1 a2 a3 a8 a4 a6 : Int} (S : wS h) (z1 : x1.toInt = a1) (z2 : x2.toInt = a2) (z3 : x3.toInt = a3) (z4 : x4.toInt = a4) (z6 : x6.toInt = a6) (z8 : x8.toInt = a8) (H : ((vw h 48 15 < a8 → P a4 h) ∧ (a8 ≤ vw h 48 15 → ((¬ (a1 ≤ a8 ∧ a8 ≤ a2) → (∀ (w6 : Int64) (w8 : Int32), w6.toInt = jDiv (w64 (a6 * (w32 ((vw h 48 15) - a8)))) (w32 (a8 + 1)) → w8.toInt = w32 (a8 + 1) → Pt n X zM68 9 [some (.ref 48), some (.int x1), some (.int x2), some (.int x3), some (.long x4), none, some (.long w6), none, some (.int w8)] [] h (qJ P))) ∧ ((a1 ≤ a8 ∧ a8 ≤ a2) → ((a8 ≤ 1000) ∧ ((w32 ((vw h 48 15) - a8) ≤ 1000) ∧ (∀ (w4 : Int64) (w6 : Int64) (w8 : Int32), w4.toInt = w64 (a4 + (w64 ((w64 (a6 * (pwF a3 (a8).toNat))) * (pwF (w32 (100 - a3)) ((w32 ((vw h 48 15) - a8))).toNat)))) → w6.toInt = jDiv (w64 (a6 * (w32 ((vw h 48 15) - a8)))) (w32 (a8 + 1)) → w8.toInt = w32 (a8 + 1) → Pt n X zM68 9 [some (.ref 48), some (.int x1), some (.int x2), some (.int x3), some (.long w4), none, some (.long w6), none, some (.int w8)] [] h (qJ P))))))))) : Pt (n + 1) X zM68 9 [some (.ref 48), some (.int x1), some (.int x2), some (.int x3), some (.long x4), none, some (.long x6), none, some (.int x8)] [] h (qJ P) := by
  refine pt_1 (fun n d => r_iload gx68_9 rfl) ?_
  refine pt_d (pt_1 (fun n d => r_aloadn gx68_11 rfl) ?_)
  refine pt_d (pt_getI (B := 15) gx68_12 S (fun v1 h1 => ?_))
  refine pt_d (pt_icmp_gt gx68_15 z8 h1 (fun e2 => ?_) (fun e2 => ?_))
  · have H := H.1 e2
    refine pt_d (pt_1 (fun n d => r_lload gx68_84 rfl) ?_)
    exact pt_d (pt_lret gx68_86 ⟨_, rfl, by rw [z4]; exact H⟩)
  · have H := H.2 e2
    refine pt_d (pt_1 (fun n d => r_iload gx68_18 rfl) ?_)
    refine pt_d (pt_1 (fun n d => r_iloadn gx68_20 rfl) ?_)
    refine pt_d (pt_1 (fun n d => r_iloadn gx68_21 rfl) ?_)
    refine pt_d (pt_stat (as := [.int x8, .int x1, .int x2]) (r := []) gx68_22 rfl (show zmt[137]? = some zM137 from rfl) rfl rfl rfl rfl (c_137 S z8 z1 z2) (kqP (fun v3 h3 => ?_)))
    show Pt _ _ _ 25 _ [.int v3] _ _
    refine pt_d (pt_ifB_eq gx68_25 h3 (fun e4 => ?_) (fun e4 => ?_))
    · have H := H.1 e4
      refine pt_d (pt_1 (fun n d => r_lload gx68_59 rfl) ?_)
      refine pt_d (pt_1 (fun n d => r_aloadn gx68_61 rfl) ?_)
      refine pt_d (pt_getI (B := 15) gx68_62 S (fun v5 h5 => ?_))
      refine pt_d (pt_1 (fun n d => r_iload gx68_65 rfl) ?_)
      refine pt_d (pt_isub gx68_67 h5 z8 (fun v6 h6 => ?_))
      refine pt_d (pt_i2l gx68_68 h6 (fun v7 h7 => ?_))
      refine pt_d (pt_lmul gx68_69 z6 h7 (fun v8 h8 => ?_))
      refine pt_d (pt_1 (fun n d => r_iload gx68_70 rfl) ?_)
      refine pt_d (pt_iconst gx68_72 (fun v9 h9 => ?_))
      refine pt_d (pt_iadd gx68_73 z8 h9 (fun v10 h10 => ?_))
      refine pt_d (pt_i2l gx68_74 h10 (fun v11 h11 => ?_))
      refine pt_d (pt_ldiv gx68_75 h8 h11 (fun v12 h12 => ?_))
      refine pt_d (pt_1 (fun n d => r_lstore (L' := [some (.ref 48), some (.int x1), some (.int x2), some (.int x3), some (.long x4), none, some (.long v12), none, some (.int x8)]) gx68_76 rfl rfl) ?_)
      refine pt_d (pt_iinc (c := 1) gx68_78 rfl z8 (fun v13 h13 => ?_))
      show Pt _ _ _ _ [some (.ref 48), some (.int x1), some (.int x2), some (.int x3), some (.long x4), none, some (.long v12), none, some (.int v13)] [] _ _
      refine pt_d (pt_1 (fun n d => r_goto gx68_81) ?_)
      exact H v12 v13 h12 h13
    · have H := H.2 e4
      refine pt_d (pt_1 (fun n d => r_lload gx68_28 rfl) ?_)
      refine pt_d (pt_1 (fun n d => r_lload gx68_30 rfl) ?_)
      refine pt_d (pt_1 (fun n d => r_iloadn gx68_32 rfl) ?_)
      refine pt_d (pt_i2l gx68_33 z3 (fun v14 h14 => ?_))
      refine pt_d (pt_1 (fun n d => r_iload gx68_34 rfl) ?_)
      obtain ⟨pr15, H⟩ := H
      refine pt_d (pt_stat (as := [.long v14, .int x8]) (r := [.long x6, .long x4]) gx68_36 rfl (show zmt[69]? = some zM69 from rfl) rfl rfl rfl rfl (c_69 S h14 z8 pr15) (kqPJ (fun v15 h15 => ?_)))
      show Pt _ _ _ 39 _ [.long v15, .long x6, .long x4] _ _
      refine pt_d (pt_lmul gx68_39 z6 h15 (fun v16 h16 => ?_))
      refine pt_d (pt_bipush gx68_40 (fun v17 h17 => ?_))
      refine pt_d (pt_1 (fun n d => r_iloadn gx68_42 rfl) ?_)
      refine pt_d (pt_isub gx68_43 h17 z3 (fun v18 h18 => ?_))
      refine pt_d (pt_i2l gx68_44 h18 (fun v19 h19 => ?_))
      refine pt_d (pt_1 (fun n d => r_aloadn gx68_45 rfl) ?_)
      refine pt_d (pt_getI (B := 15) gx68_46 S (fun v20 h20 => ?_))
      refine pt_d (pt_1 (fun n d => r_iload gx68_49 rfl) ?_)
      refine pt_d (pt_isub gx68_51 h20 z8 (fun v21 h21 => ?_))
      obtain ⟨pr22, H⟩ := H
      refine pt_d (pt_stat (as := [.long v19, .int v21]) (r := [.long v16, .long x4]) gx68_52 rfl (show zmt[69]? = some zM69 from rfl) rfl rfl rfl rfl (c_69 S h19 h21 pr22) (kqPJ (fun v22 h22 => ?_)))
      show Pt _ _ _ 55 _ [.long v22, .long v16, .long x4] _ _
      refine pt_d (pt_lmul gx68_55 h16 h22 (fun v23 h23 => ?_))
      refine pt_d (pt_ladd gx68_56 z4 h23 (fun v24 h24 => ?_))
      refine pt_d (pt_1 (fun n d => r_lstore (L' := [some (.ref 48), some (.int x1), some (.int x2), some (.int x3), some (.long v24), none, some (.long x6), none, some (.int x8)]) gx68_57 rfl rfl) ?_)
      refine pt_d (pt_1 (fun n d => r_lload gx68_59 rfl) ?_)
      refine pt_d (pt_1 (fun n d => r_aloadn gx68_61 rfl) ?_)
      refine pt_d (pt_getI (B := 15) gx68_62 S (fun v25 h25 => ?_))
      refine pt_d (pt_1 (fun n d => r_iload gx68_65 rfl) ?_)
      refine pt_d (pt_isub gx68_67 h25 z8 (fun v26 h26 => ?_))
      refine pt_d (pt_i2l gx68_68 h26 (fun v27 h27 => ?_))
      refine pt_d (pt_lmul gx68_69 z6 h27 (fun v28 h28 => ?_))
      refine pt_d (pt_1 (fun n d => r_iload gx68_70 rfl) ?_)
      refine pt_d (pt_iconst gx68_72 (fun v29 h29 => ?_))
      refine pt_d (pt_iadd gx68_73 z8 h29 (fun v30 h30 => ?_))
      refine pt_d (pt_i2l gx68_74 h30 (fun v31 h31 => ?_))
      refine pt_d (pt_ldiv gx68_75 h28 h31 (fun v32 h32 => ?_))
      refine pt_d (pt_1 (fun n d => r_lstore (L' := [some (.ref 48), some (.int x1), some (.int x2), some (.int x3), some (.long v24), none, some (.long v32), none, some (.int x8)]) gx68_76 rfl rfl) ?_)
      refine pt_d (pt_iinc (c := 1) gx68_78 rfl z8 (fun v33 h33 => ?_))
      show Pt _ _ _ _ [some (.ref 48), some (.int x1), some (.int x2), some (.int x3), some (.long v24), none, some (.long v32), none, some (.int v33)] [] _ _
      refine pt_d (pt_1 (fun n d => r_goto gx68_81) ?_)
      exact H v24 v32 v33 h24 h32 h33
theorem d297_0 {n : Nat} {X : aX} {h : aH} {P : Int → aH → Prop} {x0 x1 x2 x3 : Int32} {a0 a1 a2 a3 : Int} (S : wS h) (z0 : x0.toInt = a0) (z1 : x1.toInt = a1) (z2 : x2.toInt = a2) (z3 : x3.toInt = a3) (H : (∀ (w4 : Int64) (u7_ : Option Value) (u9_ : Option Value), w4.toInt = 0 → Pt n X zM297 6 [some (.int x0), some (.int x1), some (.int x2), some (.int x3), some (.long w4), none, some (.int x1), u7_, none, u9_] [] h (qJ P))) : Pt (n + 1) X zM297 0 [some (.int x0), some (.int x1), some (.int x2), some (.int x3), none, none, none, none, none, none] [] h (qJ P) := by
  refine pt_lconst (c := 0) gx297_0 rfl (fun v1 h1 => ?_)
  refine pt_d (pt_1 (fun n d => r_lstore (L' := [some (.int x0), some (.int x1), some (.int x2), some (.int x3), some (.long v1), none, none, none, none, none]) gx297_1 rfl rfl) ?_)
  refine pt_d (pt_1 (fun n d => r_iloadn gx297_3 rfl) ?_)
  refine pt_d (pt_1 (fun n d => r_istore (L' := [some (.int x0), some (.int x1), some (.int x2), some (.int x3), some (.long v1), none, some (.int x1), none, none, none]) gx297_4 rfl rfl) ?_)
  exact H v1 _ _ h1
theorem d297_6 {n : Nat} {X : aX} {h : aH} {P : Int → aH → Prop} {x0 x1 x2 x3 x6 : Int32} {x4 : Int64} {a0 a1 a2 a3 a6 a4 : Int} {u7 u9 : Option Value} (S : wS h) (z0 : x0.toInt = a0) (z1 : x1.toInt = a1) (z2 : x2.toInt = a2) (z3 : x3.toInt = a3) (z4 : x4.toInt = a4) (z6 : x6.toInt = a6) (H : ((a2 < a6 → P a4 h) ∧ (a6 ≤ a2 → (∀ (w7 : Int64) (w9 : Int32), w7.toInt = 1 → w9.toInt = 1 → Pt n X zM297 18 [some (.int x0), some (.int x1), some (.int x2), some (.int x3), some (.long x4), none, some (.int x6), some (.long w7), none, some (.int w9)] [] h (qJ P))))) : Pt (n + 1) X zM297 6 [some (.int x0), some (.int x1), some (.int x2), some (.int x3), some (.long x4), none, some (.int x6), u7, none, u9] [] h (qJ P) := by
  refine pt_1 (fun n d => r_iload gx297_6 rfl) ?_
  refine pt_d (pt_1 (fun n d => r_iloadn gx297_8 rfl) ?_)
  refine pt_d (pt_icmp_gt gx297_9 z6 z2 (fun e1 => ?_) (fun e1 => ?_))
  · have H := H.1 e1
    refine pt_d (pt_1 (fun n d => r_lload gx297_82 rfl) ?_)
    exact pt_d (pt_lret gx297_84 ⟨_, rfl, by rw [z4]; exact H⟩)
  · have H := H.2 e1
    refine pt_d (pt_lconst (c := 1) gx297_12 rfl (fun v2 h2 => ?_))
    refine pt_d (pt_1 (fun n d => r_lstore (L' := [some (.int x0), some (.int x1), some (.int x2), some (.int x3), some (.long x4), none, some (.int x6), some (.long v2), none, u9]) gx297_13 rfl rfl) ?_)
    refine pt_d (pt_iconst gx297_15 (fun v3 h3 => ?_))
    refine pt_d (pt_1 (fun n d => r_istore (L' := [some (.int x0), some (.int x1), some (.int x2), some (.int x3), some (.long x4), none, some (.int x6), some (.long v2), none, some (.int v3)]) gx297_16 rfl rfl) ?_)
    exact H v2 v3 h2 h3
theorem d297_18 {n : Nat} {X : aX} {h : aH} {P : Int → aH → Prop} {x0 x1 x2 x3 x6 x9 : Int32} {x4 x7 : Int64} {a0 a1 a2 a3 a6 a9 a4 a7 : Int} (S : wS h) (z0 : x0.toInt = a0) (z1 : x1.toInt = a1) (z2 : x2.toInt = a2) (z3 : x3.toInt = a3) (z4 : x4.toInt = a4) (z6 : x6.toInt = a6) (z7 : x7.toInt = a7) (z9 : x9.toInt = a9) (H : ((a6 < a9 → ((a6 ≤ 1000) ∧ ((w32 (a0 - a6) ≤ 1000) ∧ (∀ (w4 : Int64) (w6 : Int32) (u7_ : Option Value) (u9_ : Option Value), w4.toInt = w64 (a4 + (w64 ((w64 (a7 * (pwF a3 (a6).toNat))) * (pwF (w32 (100 - a3)) ((w32 (a0 - a6))).toNat)))) → w6.toInt = w32 (a6 + 1) → Pt n X zM297 6 [some (.int x0), some (.int x1), some (.int x2), some (.int x3), some (.long w4), none, some (.int w6), u7_, none, u9_] [] h (qJ P))))) ∧ (a9 ≤ a6 → (∀ (w7 : Int64) (w9 : Int32), w7.toInt = jDiv (w64 (a7 * (w32 ((w32 (a0 - a6)) + a9)))) a9 → w9.toInt = w32 (a9 + 1) → Pt n X zM297 18 [some (.int x0), some (.int x1), some (.int x2), some (.int x3), some (.long x4), none, some (.int x6), some (.long w7), none, some (.int w9)] [] h (qJ P))))) : Pt (n + 1) X zM297 18 [some (.int x0), some (.int x1), some (.int x2), some (.int x3), some (.long x4), none, some (.int x6), some (.long x7), none, some (.int x9)] [] h (qJ P) := by
  refine pt_1 (fun n d => r_iload gx297_18 rfl) ?_
  refine pt_d (pt_1 (fun n d => r_iload gx297_20 rfl) ?_)
  refine pt_d (pt_icmp_gt gx297_22 z9 z6 (fun e1 => ?_) (fun e1 => ?_))
  · have H := H.1 e1
    refine pt_d (pt_1 (fun n d => r_lload gx297_48 rfl) ?_)
    refine pt_d (pt_1 (fun n d => r_lload gx297_50 rfl) ?_)
    refine pt_d (pt_1 (fun n d => r_iloadn gx297_52 rfl) ?_)
    refine pt_d (pt_i2l gx297_53 z3 (fun v2 h2 => ?_))
    refine pt_d (pt_1 (fun n d => r_iload gx297_54 rfl) ?_)
    obtain ⟨pr3, H⟩ := H
    refine pt_d (pt_stat (as := [.long v2, .int x6]) (r := [.long x7, .long x4]) gx297_56 rfl (show zmt[296]? = some zM296 from rfl) rfl rfl rfl rfl (c_296 S h2 z6 pr3) (kqPJ (fun v3 h3 => ?_)))
    show Pt _ _ _ 59 _ [.long v3, .long x7, .long x4] _ _
    refine pt_d (pt_lmul gx297_59 z7 h3 (fun v4 h4 => ?_))
    refine pt_d (pt_bipush gx297_60 (fun v5 h5 => ?_))
    refine pt_d (pt_1 (fun n d => r_iloadn gx297_62 rfl) ?_)
    refine pt_d (pt_isub gx297_63 h5 z3 (fun v6 h6 => ?_))
    refine pt_d (pt_i2l gx297_64 h6 (fun v7 h7 => ?_))
    refine pt_d (pt_1 (fun n d => r_iloadn gx297_65 rfl) ?_)
    refine pt_d (pt_1 (fun n d => r_iload gx297_66 rfl) ?_)
    refine pt_d (pt_isub gx297_68 z0 z6 (fun v8 h8 => ?_))
    obtain ⟨pr9, H⟩ := H
    refine pt_d (pt_stat (as := [.long v7, .int v8]) (r := [.long v4, .long x4]) gx297_69 rfl (show zmt[296]? = some zM296 from rfl) rfl rfl rfl rfl (c_296 S h7 h8 pr9) (kqPJ (fun v9 h9 => ?_)))
    show Pt _ _ _ 72 _ [.long v9, .long v4, .long x4] _ _
    refine pt_d (pt_lmul gx297_72 h4 h9 (fun v10 h10 => ?_))
    refine pt_d (pt_ladd gx297_73 z4 h10 (fun v11 h11 => ?_))
    refine pt_d (pt_1 (fun n d => r_lstore (L' := [some (.int x0), some (.int x1), some (.int x2), some (.int x3), some (.long v11), none, some (.int x6), some (.long x7), none, some (.int x9)]) gx297_74 rfl rfl) ?_)
    refine pt_d (pt_iinc (c := 1) gx297_76 rfl z6 (fun v12 h12 => ?_))
    show Pt _ _ _ _ [some (.int x0), some (.int x1), some (.int x2), some (.int x3), some (.long v11), none, some (.int v12), some (.long x7), none, some (.int x9)] [] _ _
    refine pt_d (pt_1 (fun n d => r_goto gx297_79) ?_)
    exact H v11 v12 _ _ h11 h12
  · have H := H.2 e1
    refine pt_d (pt_1 (fun n d => r_lload gx297_25 rfl) ?_)
    refine pt_d (pt_1 (fun n d => r_iloadn gx297_27 rfl) ?_)
    refine pt_d (pt_1 (fun n d => r_iload gx297_28 rfl) ?_)
    refine pt_d (pt_isub gx297_30 z0 z6 (fun v13 h13 => ?_))
    refine pt_d (pt_1 (fun n d => r_iload gx297_31 rfl) ?_)
    refine pt_d (pt_iadd gx297_33 h13 z9 (fun v14 h14 => ?_))
    refine pt_d (pt_i2l gx297_34 h14 (fun v15 h15 => ?_))
    refine pt_d (pt_lmul gx297_35 z7 h15 (fun v16 h16 => ?_))
    refine pt_d (pt_1 (fun n d => r_iload gx297_36 rfl) ?_)
    refine pt_d (pt_i2l gx297_38 z9 (fun v17 h17 => ?_))
    refine pt_d (pt_ldiv gx297_39 h16 h17 (fun v18 h18 => ?_))
    refine pt_d (pt_1 (fun n d => r_lstore (L' := [some (.int x0), some (.int x1), some (.int x2), some (.int x3), some (.long x4), none, some (.int x6), some (.long v18), none, some (.int x9)]) gx297_40 rfl rfl) ?_)
    refine pt_d (pt_iinc (c := 1) gx297_42 rfl z9 (fun v19 h19 => ?_))
    show Pt _ _ _ _ [some (.int x0), some (.int x1), some (.int x2), some (.int x3), some (.long x4), none, some (.int x6), some (.long v18), none, some (.int v19)] [] _ _
    refine pt_d (pt_1 (fun n d => r_goto gx297_45) ?_)
    exact H v18 v19 h18 h19
theorem l_68 {X : aX} {h : aH} {f t p : Int} (S : wS h) (hn : 0 ≤ vw h 48 15 ∧ vw h 48 15 ≤ 8) : ∀ (n : Nat) (x1 x2 x3 x8 : Int32) (x4 x6 : Int64) (k : Nat), x1.toInt = f → x2.toInt = t → x3.toInt = p → x4.toInt = gSm (tCh (cWy (vw h 48 15)) (vw h 48 15) p) f t k → x6.toInt = cWy (vw h 48 15) k → x8.toInt = (k : Int) → (k : Int) ≤ vw h 48 15 + 1 → Pt n X zM68 9 [some (.ref 48), some (.int x1), some (.int x2), some (.int x3), some (.long x4), none, some (.long x6), none, some (.int x8)] [] h (qJ (fun y h' => h' = h ∧ y = gSm (tCh (cWy (vw h 48 15)) (vw h 48 15) p) f t (vw h 48 15 + 1).toNat)) := by
  intro n
  induction n with
  | zero => intros; exact pt_z
  | succ n ih =>
    intro x1 x2 x3 x8 x4 x6 k h1 h2 h3 h4 h6 h8 hk
    have e : gSm (tCh (cWy (vw h 48 15)) (vw h 48 15) p) f t (k + 1) = if f ≤ (k : Int) ∧ (k : Int) ≤ t then w64 (gSm (tCh (cWy (vw h 48 15)) (vw h 48 15) p) f t k + tCh (cWy (vw h 48 15)) (vw h 48 15) p k) else gSm (tCh (cWy (vw h 48 15)) (vw h 48 15) p) f t k := rfl
    have wk : (k : Int) ≤ 8 → w32 ((k : Int) + 1) = (k : Int) + 1 := fun _ => w32_id (by omega) (by omega)
    refine d68_9 S h1 h2 h3 h4 h6 h8 ⟨fun z => ⟨rfl, ?_⟩, fun z => ⟨fun z2 w6 w8 g6 g8 => ?_, fun z2 => ⟨(by show (k : Int) ≤ 1000; omega), (by show w32 (vw h 48 15 - (k : Int)) ≤ 1000; rw [w32_id (by omega) (by omega)]; omega), fun w4 w6 w8 g4 g6 g8 => ?_⟩⟩⟩
    · rw [show (vw h 48 15 + 1).toNat = k by omega]
    · replace g8 := w_1 g8 (by omega) (by omega)
      refine ih x1 x2 x3 w8 x4 w6 (k + 1) h1 h2 h3 ?_ g6 (by omega) (by omega)
      rw [e, if_neg z2]
      exact h4
    · replace g8 := w_1 g8 (by omega) (by omega)
      refine ih x1 x2 x3 w8 w4 w6 (k + 1) h1 h2 h3 ?_ g6 (by omega) (by omega)
      rw [e, if_pos z2, g4]
      unfold tCh
      rw [Int.toNat_natCast]
theorem c_68 {n : Nat} {X : aX} {h : aH} {x1 x2 x3 : Int32} {a1 a2 a3 : Int} (S : wS h) (z1 : x1.toInt = a1) (z2 : x2.toInt = a2) (z3 : x3.toInt = a3) (hn : 0 ≤ vw h 48 15 ∧ vw h 48 15 ≤ 8) : Pt n X zM68 0 [some (.ref 48), some (.int x1), some (.int x2), some (.int x3), none, none, none, none, none] [] h (qJ (fun y h' => h' = h ∧ y = gSm (tCh (cWy (vw h 48 15)) (vw h 48 15) a3) a1 a2 (vw h 48 15 + 1).toNat)) :=
  pt_d (d68_0 S z1 z2 z3 (fun w4 w6 w8 g4 g6 g8 => l_68 S hn n x1 x2 x3 w8 w4 w6 0 z1 z2 z3 g4 g6 g8 (by omega)))

theorem l_297 {X : aX} {h : aH} {N a b p : Int} (S : wS h) (hN : 0 ≤ N ∧ N ≤ 8) (ha : 0 ≤ a) (hb : b ≤ N) : ∀ n : Nat, (∀ (x0 x1 x2 x3 x6 : Int32) (x4 : Int64) (u7 u9 : Option Value) (k : Nat), x0.toInt = N → x1.toInt = a → x2.toInt = b → x3.toInt = p → x4.toInt = gSm (tCh (mWy N) N p) a b k → x6.toInt = (k : Int) → a ≤ (k : Int) → (k : Int) ≤ b + 1 → Pt n X zM297 6 [some (.int x0), some (.int x1), some (.int x2), some (.int x3), some (.long x4), none, some (.int x6), u7, none, u9] [] h (qJ (fun y h' => h' = h ∧ y = gSm (tCh (mWy N) N p) a b (b + 1).toNat))) ∧
    (∀ (x0 x1 x2 x3 x6 x9 : Int32) (x4 x7 : Int64) (k j : Nat), x0.toInt = N → x1.toInt = a → x2.toInt = b → x3.toInt = p → x4.toInt = gSm (tCh (mWy N) N p) a b k → x6.toInt = (k : Int) → a ≤ (k : Int) → (k : Int) ≤ b → x7.toInt = mWi (w32 (N - (k : Nat))) j → x9.toInt = (j : Int) + 1 → j ≤ k → Pt n X zM297 18 [some (.int x0), some (.int x1), some (.int x2), some (.int x3), some (.long x4), none, some (.int x6), some (.long x7), none, some (.int x9)] [] h (qJ (fun y h' => h' = h ∧ y = gSm (tCh (mWy N) N p) a b (b + 1).toNat))) := by
  intro n
  induction n with
  | zero => exact ⟨by intros; exact pt_z, by intros; exact pt_z⟩
  | succ n ih =>
    refine ⟨fun x0 x1 x2 x3 x6 x4 u7 u9 k h0 h1 h2 h3 h4 h6 ka kb => ?_, fun x0 x1 x2 x3 x6 x9 x4 x7 k j h0 h1 h2 h3 h4 h6 ka kb h7 h9 hj => ?_⟩
    · refine d297_6 S h0 h1 h2 h3 h4 h6 ⟨fun e => ⟨rfl, ?_⟩, fun e w7 w9 g7 g9 => ?_⟩
      · rw [show (b + 1).toNat = k by omega]
      · exact ih.2 x0 x1 x2 x3 x6 w9 x4 w7 k 0 h0 h1 h2 h3 h4 h6 ka e g7 g9 (Nat.zero_le _)
    · have e : gSm (tCh (mWy N) N p) a b (k + 1) = if a ≤ (k : Int) ∧ (k : Int) ≤ b then w64 (gSm (tCh (mWy N) N p) a b k + tCh (mWy N) N p k) else gSm (tCh (mWy N) N p) a b k := rfl
      refine d297_18 S h0 h1 h2 h3 h4 h6 h7 h9 ⟨fun z => ⟨(by show (k : Int) ≤ 1000; omega), (by show w32 (N - (k : Int)) ≤ 1000; rw [w32_id (by omega) (by omega)]; omega), fun w4 w6 u7 u9 g4 g6 => ?_⟩, fun z w7 w9 g7 g9 => ?_⟩
      · replace g6 := w_1 g6 (by omega) (by omega)
        refine ih.1 x0 x1 x2 x3 w6 w4 u7 u9 (k + 1) h0 h1 h2 h3 ?_ (by omega) (by omega) (by omega)
        have ej : j = k := by omega
        rw [e, if_pos ⟨ka, kb⟩, g4, ej]
        unfold tCh mWy
        rw [Int.toNat_natCast]
      · replace g9 := w_1 g9 (by omega) (by omega)
        exact ih.2 x0 x1 x2 x3 x6 w9 x4 w7 k (j + 1) h0 h1 h2 h3 h4 h6 ka kb g7 (by omega) (by omega)
theorem c_297 {n : Nat} {X : aX} {h : aH} {x0 x1 x2 x3 : Int32} {a0 a1 a2 a3 : Int} (S : wS h) (z0 : x0.toInt = a0) (z1 : x1.toInt = a1) (z2 : x2.toInt = a2) (z3 : x3.toInt = a3) (hp : (0 ≤ a0 ∧ a0 ≤ 8) ∧ 0 ≤ a1 ∧ a1 ≤ a2 + 1 ∧ a2 ≤ a0) : Pt n X zM297 0 [some (.int x0), some (.int x1), some (.int x2), some (.int x3), none, none, none, none, none, none] [] h (qJ (fun y h' => h' = h ∧ y = gSm (tCh (mWy a0) a0 a3) a1 a2 (a2 + 1).toNat)) :=
  pt_d (d297_0 S z0 z1 z2 z3 (fun w4 u7 u9 g4 => (l_297 S hp.1 hp.2.1 hp.2.2.2 n).1 x0 x1 x2 x3 x1 w4 u7 u9 a1.toNat z0 z1 z2 z3 (by rw [g4, gSm_low _ (by omega)]) (by omega) (by omega) (by omega)))
end
section
-- ===== the rate of errors =====
theorem d67_0 {n : Nat} {X : aX} {h : aH} {P : Int → aH → Prop} {x1 x2 : Int32} {a1 a2 : Int} (S : wS h) (z1 : x1.toInt = a1) (z2 : x2.toInt = a2) (H : ((vw h 48 15 ≤ 1000) ∧ ((0 ≤ vw h 48 15 ∧ vw h 48 15 ≤ 8) ∧ ((w64 (a2 * (pwF 100 ((vw h 48 15)).toNat)) ≤ w64 (100 * (gSm (tCh (cWy ((vw h) 48 15)) ((vw h) 48 15) a1) (vw h 48 16) (vw h 48 15) ((vw h) 48 15 + 1).toNat)) → ((0 ≤ vw h 48 15 ∧ vw h 48 15 ≤ 8) ∧ ((w64 (a2 * (pwF 100 ((vw h 48 15)).toNat)) ≤ w64 (100 * (gSm (tCh (cWy ((vw h) 48 15)) ((vw h) 48 15) a1) 0 (vw h 48 16) ((vw h) 48 15 + 1).toNat)) → P 0 h) ∧ (w64 (100 * (gSm (tCh (cWy ((vw h) 48 15)) ((vw h) 48 15) a1) 0 (vw h 48 16) ((vw h) 48 15 + 1).toNat)) < w64 (a2 * (pwF 100 ((vw h 48 15)).toNat)) → P 2 h)))) ∧ (w64 (100 * (gSm (tCh (cWy ((vw h) 48 15)) ((vw h) 48 15) a1) (vw h 48 16) (vw h 48 15) ((vw h) 48 15 + 1).toNat)) < w64 (a2 * (pwF 100 ((vw h 48 15)).toNat)) → P 1 h))))) : Pt (n + 1) X zM67 0 [some (.ref 48), some (.int x1), some (.int x2), none, none] [] h (qI P) := by
  refine pt_1 (fun n d => r_iloadn gx67_0 rfl) ?_
  refine pt_d (pt_i2l gx67_1 z2 (fun v1 h1 => ?_))
  refine pt_d (pt_ldc2_w (c := 100) gx67_2 rfl (fun v2 h2 => ?_))
  refine pt_d (pt_1 (fun n d => r_aloadn gx67_5 rfl) ?_)
  refine pt_d (pt_getI (B := 15) gx67_6 S (fun v3 h3 => ?_))
  obtain ⟨pr4, H⟩ := H
  refine pt_d (pt_stat (as := [.long v2, .int v3]) (r := [.long v1]) gx67_9 rfl (show zmt[69]? = some zM69 from rfl) rfl rfl rfl rfl (c_69 S h2 h3 pr4) (kqPJ (fun v4 h4 => ?_)))
  show Pt _ _ _ 12 _ [.long v4, .long v1] _ _
  refine pt_d (pt_lmul gx67_12 h1 h4 (fun v5 h5 => ?_))
  refine pt_d (pt_1 (fun n d => r_lstoren (L' := [some (.ref 48), some (.int x1), some (.int x2), some (.long v5), none]) gx67_13 rfl rfl) ?_)
  refine pt_d (pt_ldc2_w (c := 100) gx67_14 rfl (fun v6 h6 => ?_))
  refine pt_d (pt_1 (fun n d => r_aloadn gx67_17 rfl) ?_)
  refine pt_d (pt_1 (fun n d => r_aloadn gx67_18 rfl) ?_)
  refine pt_d (pt_getI (B := 16) gx67_19 S (fun v7 h7 => ?_))
  refine pt_d (pt_1 (fun n d => r_aloadn gx67_22 rfl) ?_)
  refine pt_d (pt_getI (B := 15) gx67_23 S (fun v8 h8 => ?_))
  refine pt_d (pt_1 (fun n d => r_iloadn gx67_26 rfl) ?_)
  obtain ⟨pr9, H⟩ := H
  refine pt_d (pt_virt (as := [.int v7, .int v8, .int x1]) (r := [.long v6]) gx67_27 rfl (show zmt[68]? = some zM68 from rfl) rfl rfl rfl rfl (c_68 S h7 h8 z1 pr9) (kqPJ (fun v9 h9 => ?_)))
  show Pt _ _ _ 30 _ [.long v9, .long v6] _ _
  refine pt_d (pt_lmul gx67_30 h6 h9 (fun v10 h10 => ?_))
  refine pt_d (pt_1 (fun n d => r_lloadn gx67_31 rfl) ?_)
  refine pt_d (pt_lcmp_ge gx67_32 gx67_33 h10 h5 (fun e11 => ?_) (fun e11 => ?_))
  · have H := H.1 e11
    refine pt_d (pt_ldc2_w (c := 100) gx67_38 rfl (fun v12 h12 => ?_))
    refine pt_d (pt_1 (fun n d => r_aloadn gx67_41 rfl) ?_)
    refine pt_d (pt_iconst gx67_42 (fun v13 h13 => ?_))
    refine pt_d (pt_1 (fun n d => r_aloadn gx67_43 rfl) ?_)
    refine pt_d (pt_getI (B := 16) gx67_44 S (fun v14 h14 => ?_))
    refine pt_d (pt_1 (fun n d => r_iloadn gx67_47 rfl) ?_)
    obtain ⟨pr15, H⟩ := H
    refine pt_d (pt_virt (as := [.int v13, .int v14, .int x1]) (r := [.long v12]) gx67_48 rfl (show zmt[68]? = some zM68 from rfl) rfl rfl rfl rfl (c_68 S h13 h14 z1 pr15) (kqPJ (fun v15 h15 => ?_)))
    show Pt _ _ _ 51 _ [.long v15, .long v12] _ _
    refine pt_d (pt_lmul gx67_51 h12 h15 (fun v16 h16 => ?_))
    refine pt_d (pt_1 (fun n d => r_lloadn gx67_52 rfl) ?_)
    refine pt_d (pt_lcmp_ge gx67_53 gx67_54 h16 h5 (fun e17 => ?_) (fun e17 => ?_))
    · have H := H.1 e17
      refine pt_d (pt_iconst gx67_61 (fun v18 h18 => ?_))
      exact pt_d (pt_iret gx67_62 ⟨_, rfl, by rw [h18]; exact H⟩)
    · have H := H.2 e17
      refine pt_d (pt_iconst gx67_57 (fun v19 h19 => ?_))
      refine pt_d (pt_1 (fun n d => r_goto gx67_58) ?_)
      exact pt_d (pt_iret gx67_62 ⟨_, rfl, by rw [h19]; exact H⟩)
  · have H := H.2 e11
    refine pt_d (pt_iconst gx67_36 (fun v20 h20 => ?_))
    exact pt_d (pt_iret gx67_37 ⟨_, rfl, by rw [h20]; exact H⟩)
noncomputable def uLk (W : Nat → Int) (n x p w : Int) : Int := if w64 (100 * gSm (tCh W n p) x n (n + 1).toNat) < w64 (w * pwF 100 n.toNat) then 1 else if w64 (100 * gSm (tCh W n p) 0 x (n + 1).toNat) < w64 (w * pwF 100 n.toNat) then 2 else 0
theorem c_67 {n : Nat} {X : aX} {h : aH} {x1 x2 : Int32} {a1 a2 : Int} (S : wS h) (z1 : x1.toInt = a1) (z2 : x2.toInt = a2) (hn : 0 ≤ vw h 48 15 ∧ vw h 48 15 ≤ 8) : Pt n X zM67 0 [some (.ref 48), some (.int x1), some (.int x2), none, none] [] h (qI (fun r h' => h' = h ∧ r = uLk (cWy (vw h 48 15)) (vw h 48 15) (vw h 48 16) a1 a2)) := by
  refine pt_d (d67_0 S z1 z2 ?_)
  have hn' : vw h 48 15 ≤ 1000 := by omega
  refine ⟨hn', hn, fun e => ⟨hn, fun e2 => ⟨rfl, ?_⟩, fun e2 => ⟨rfl, ?_⟩⟩, fun e => ⟨rfl, ?_⟩⟩
  · unfold uLk
    rw [if_neg (by omega), if_neg (by omega)]
  · unfold uLk
    rw [if_neg (by omega), if_pos e2]
  · unfold uLk
    rw [if_pos e]
-- the same numbers, from other ways of reckoning the ways
theorem uLk_e {n x p w : Int} (hn : 0 ≤ n ∧ n ≤ 8) (hx : 0 ≤ x ∧ x ≤ n) : uLk (cWy n) n x p w = if w64 (100 * gSm (tCh (mWy n) n p) x n (n + 1).toNat) < w64 (w * pwF 100 n.toNat) then 1 else if w64 (100 * gSm (tCh (mWy n) n p) 0 x (x + 1).toNat) < w64 (w * pwF 100 n.toNat) then 2 else 0 := by
  obtain ⟨m, rfl⟩ : ∃ m : Nat, n = (m : Int) := ⟨n.toNat, by omega⟩
  have ce : ∀ i, i < ((m : Int) + 1).toNat → tCh (cWy (m : Int)) (m : Int) p i = tCh (mWy (m : Int)) (m : Int) p i := fun i hi => by
    unfold tCh
    rw [ways_e ⟨m, by omega⟩ ⟨i, by omega⟩ (show i ≤ m by omega)]
  have st : gSm (tCh (mWy (m : Int)) (m : Int) p) 0 x ((m : Int) + 1).toNat = gSm (tCh (mWy (m : Int)) (m : Int) p) 0 x (x + 1).toNat := by
    rw [show ((m : Int) + 1).toNat = (x + 1).toNat + (((m : Int) + 1).toNat - (x + 1).toNat) by omega]
    exact gSm_stop (by omega) _
  unfold uLk
  rw [gSm_c _ ce, gSm_c _ ce, st]

-- those controlled, those wrong, the first eight
noncomputable def jX (P E : Int → Prop) : Nat → Int
  | 0 => 0
  | b + 1 => jX P E b + pI ((P (b : Nat) ∧ E (b : Nat)) ∧ nQ P b < 8) 1
theorem jX_s (P E : Int → Prop) (b : Nat) : jX P E (b + 1) = jX P E b + pI ((P (b : Nat) ∧ E (b : Nat)) ∧ nQ P b < 8) 1 := rfl
theorem jX_w {P E : Int → Prop} : ∀ b : Nat, nQ P b ≤ 8 → jX P E b = nQ (fun j => P j ∧ E j) b
  | 0, _ => rfl
  | b + 1, h => by
    by_cases p : P (b : Nat)
    · rw [nQ_t p] at h
      have ih := jX_w (P := P) (E := E) b (by omega)
      by_cases e : E (b : Nat)
      · rw [jX_s, pI_t ⟨⟨p, e⟩, by omega⟩, ih, nQ_t (P := fun j => P j ∧ E j) ⟨p, e⟩]
      · rw [jX_s, pI_f (fun z => e z.1.2), ih, nQ_f (P := fun j => P j ∧ E j) (fun z => e z.2)]
    · rw [nQ_f p, Int.add_zero] at h
      rw [jX_s, pI_f (fun z => p z.1.1), jX_w b h, nQ_f (P := fun j => P j ∧ E j) (fun z => p z.1)]
theorem jX_b {P E : Int → Prop} : ∀ b : Nat, 0 ≤ jX P E b ∧ jX P E b ≤ min 8 (nQ P b)
  | 0 => ⟨Int.le_refl _, by show (0 : Int) ≤ min 8 0; decide⟩
  | b + 1 => by
    have ih := jX_b (P := P) (E := E) b
    have n0 := nQ_b P b
    by_cases p : P (b : Nat)
    · rw [jX_s, nQ_t p]
      by_cases z : (P (b : Nat) ∧ E (b : Nat)) ∧ nQ P b < 8
      · rw [pI_t z]
        omega
      · rw [pI_f z]
        omega
    · rw [jX_s, nQ_f p, pI_f (fun z => p z.1.1)]
      omega
theorem jX_c {P E P' E' : Int → Prop} : ∀ n : Nat, (∀ j : Int, 0 ≤ j → j < (n : Int) → (P j ↔ P' j) ∧ (P j → (E j ↔ E' j))) → jX P E n = jX P' E' n
  | 0, _ => rfl
  | n + 1, h => by
    have hn := h (n : Nat) (by omega) (by omega)
    rw [jX_s, jX_s, jX_c n (fun j a b => h j a (by omega)), nQ_c n (fun j a b => (h j a (by omega)).1)]
    congr 1
    refine pI_c ?_ (fun _ => rfl)
    constructor
    · rintro ⟨⟨a, b⟩, c⟩
      exact ⟨⟨hn.1.mp a, (hn.2 a).mp b⟩, c⟩
    · rintro ⟨⟨a, b⟩, c⟩
      exact ⟨⟨hn.1.mpr a, (hn.2 (hn.1.mpr a)).mpr b⟩, c⟩

theorem d66_0 {n : Nat} {X : aX} {h : aH} {P : aH → Prop} {x1 : Int32} {a1 : Int} (S : wS h) (z1 : x1.toInt = a1) (H : ((p1 h a1) ∧ ∀ (q4 : Nat) (h_4 : aH), (wS h_4 ∧ R1 h a1 (vw h 1 0) q4 h_4) → ∀ h_8 : aH, wS h_8 → vw h_8 = up (up (vw h_4) 48 13 0) 48 14 0 → (∀ (w3 : Int32), w3.toInt = 0 → Pt n X zM66 28 [some (.ref 48), some (.int x1), some (.ref q4), some (.int w3)] [] h_8 (qN P)))) : Pt (n + 1) X zM66 0 [some (.ref 48), some (.int x1), none, none] [] h (qN P) := by
  refine pt_1 (fun n d => r_aloadn gx66_0 rfl) ?_
  refine pt_d (pt_getR gx66_1 S tr_48_2 ?_)
  refine pt_d (pt_1 (fun n d => r_iloadn gx66_4 rfl) ?_)
  refine pt_d (pt_1 (fun n d => r_aloadn gx66_5 rfl) ?_)
  refine pt_d (pt_getR gx66_6 S tr_48_0 ?_)
  refine pt_d (pt_getI (B := 0) gx66_9 S (fun v3 h3 => ?_))
  obtain ⟨pr4, H⟩ := H
  refine pt_d (pt_virt (as := [.int x1, .int v3]) (r := []) gx66_12 rfl (show zmt[1]? = some zM1 from rfl) rfl rfl rfl rfl (c_1 S z1 h3 pr4) (kqR (fun q4 h_4 P4 => ?_)))
  have S4 := P4.1
  have H := H q4 h_4 P4
  show Pt _ _ _ 15 _ [.ref q4] _ _
  refine pt_d (pt_1 (fun n d => r_astoren (L' := [some (.ref 48), some (.int x1), some (.ref q4), none]) gx66_15 rfl rfl) ?_)
  refine pt_d (pt_1 (fun n d => r_aloadn gx66_16 rfl) ?_)
  refine pt_d (pt_iconst gx66_17 (fun v5 h5 => ?_))
  refine pt_d (pt_putI (B := 13) gx66_18 S4 h5 (fun h_6 S6 e6 => ?_))
  refine pt_d (pt_1 (fun n d => r_aloadn gx66_21 rfl) ?_)
  refine pt_d (pt_iconst gx66_22 (fun v7 h7 => ?_))
  refine pt_d (pt_putI (B := 14) gx66_23 S6 h7 (fun h_8 S8 e8 => ?_))
  refine pt_d (pt_iconst gx66_26 (fun v9 h9 => ?_))
  refine pt_d (pt_1 (fun n d => r_istoren (L' := [some (.ref 48), some (.int x1), some (.ref q4), some (.int v9)]) gx66_27 rfl rfl) ?_)
  have H := H h_8 S8 (by rw [e8, e6])
  exact H v9 h9
theorem d66_28 {n : Nat} {X : aX} {h : aH} {P : aH → Prop} {x1 x3 : Int32} {a1 a3 : Int} {q2 : Nat} (S : wS h) (z1 : x1.toInt = a1) (z3 : x3.toInt = a3) (H : ((vw h 1 1 ≤ a3 → ((vw h 48 13 ≠ 0 → P h) ∧ (vw h 48 13 = 0 → ∀ h_9 : aH, wS h_9 → vw h_9 = up (up (vw h) 48 15 0) 48 16 0 → P h_9))) ∧ (a3 < vw h 1 1 → ((¬ (cFarm (vw h) a3) → (∀ (w3 : Int32), w3.toInt = w32 (a3 + 1) → Pt n X zM66 28 [some (.ref 48), some (.int x1), some (.ref q2), some (.int w3)] [] h (qN P))) ∧ ((cFarm (vw h) a3) → ((0 ≤ vw h 16 3 ∧ vw h 16 3 ≤ 200) ∧ ((¬ (∃ c, (0 ≤ c ∧ c < vw h 16 3) ∧ (vw h 27 c = a3 ∧ vw h 29 c = a1)) → (∀ (w3 : Int32), w3.toInt = w32 (a3 + 1) → Pt n X zM66 28 [some (.ref 48), some (.int x1), some (.ref q2), some (.int w3)] [] h (qN P))) ∧ ((∃ c, (0 ≤ c ∧ c < vw h 16 3) ∧ (vw h 27 c = a3 ∧ vw h 29 c = a1)) → ∀ h_21 : aH, wS h_21 → vw h_21 = up (vw h) 48 13 (w32 ((vw h 48 13) + 1)) → ((PR102 (vw h_21) q2) ∧ ((cErr (vw h_21) q2 a3 ≤ 2 → ((8 < vw h_21 48 13 → ∀ h_28 : aH, wS h_28 → vw h_28 = up (vw h_21) 48 14 (w32 ((vw h 48 14) + 0)) → (∀ (w3 : Int32), w3.toInt = w32 (a3 + 1) → Pt n X zM66 28 [some (.ref 48), some (.int x1), some (.ref q2), some (.int w3)] [] h_28 (qN P))) ∧ (vw h_21 48 13 ≤ 8 → ∀ h_36 : aH, wS h_36 → vw h_36 = up (up (up (vw h_21) 48 14 (w32 ((vw h 48 14) + 0))) 48 15 (vw h_21 48 13)) 48 16 (w32 ((vw h 48 14) + 0)) → (∀ (w3 : Int32), w3.toInt = w32 (a3 + 1) → Pt n X zM66 28 [some (.ref 48), some (.int x1), some (.ref q2), some (.int w3)] [] h_36 (qN P))))) ∧ (2 < cErr (vw h_21) q2 a3 → ((8 < vw h_21 48 13 → ∀ h_40 : aH, wS h_40 → vw h_40 = up (vw h_21) 48 14 (w32 ((vw h 48 14) + 1)) → (∀ (w3 : Int32), w3.toInt = w32 (a3 + 1) → Pt n X zM66 28 [some (.ref 48), some (.int x1), some (.ref q2), some (.int w3)] [] h_40 (qN P))) ∧ (vw h_21 48 13 ≤ 8 → ∀ h_48 : aH, wS h_48 → vw h_48 = up (up (up (vw h_21) 48 14 (w32 ((vw h 48 14) + 1))) 48 15 (vw h_21 48 13)) 48 16 (w32 ((vw h 48 14) + 1)) → (∀ (w3 : Int32), w3.toInt = w32 (a3 + 1) → Pt n X zM66 28 [some (.ref 48), some (.int x1), some (.ref q2), some (.int w3)] [] h_48 (qN P))))))))))))))) : Pt (n + 1) X zM66 28 [some (.ref 48), some (.int x1), some (.ref q2), some (.int x3)] [] h (qN P) := by
  refine pt_1 (fun n d => r_iloadn gx66_28 rfl) ?_
  refine pt_d (pt_1 (fun n d => r_aloadn gx66_29 rfl) ?_)
  refine pt_d (pt_getR gx66_30 S tr_48_0 ?_)
  refine pt_d (pt_getI (B := 1) gx66_33 S (fun v2 h2 => ?_))
  refine pt_d (pt_icmp_ge gx66_36 z3 h2 (fun e3 => ?_) (fun e3 => ?_))
  · have H := H.1 e3
    refine pt_d (pt_1 (fun n d => r_aloadn gx66_126 rfl) ?_)
    refine pt_d (pt_getI (B := 13) gx66_127 S (fun v4 h4 => ?_))
    refine pt_d (pt_if_ne gx66_130 h4 (fun e5 => ?_) (fun e5 => ?_))
    · have H := H.1 e5
      exact pt_d (pt_vret gx66_143 ⟨rfl, H⟩)
    · have H := H.2 e5
      refine pt_d (pt_1 (fun n d => r_aloadn gx66_133 rfl) ?_)
      refine pt_d (pt_iconst gx66_134 (fun v6 h6 => ?_))
      refine pt_d (pt_putI (B := 15) gx66_135 S h6 (fun h_7 S7 e7 => ?_))
      refine pt_d (pt_1 (fun n d => r_aloadn gx66_138 rfl) ?_)
      refine pt_d (pt_iconst gx66_139 (fun v8 h8 => ?_))
      refine pt_d (pt_putI (B := 16) gx66_140 S7 h8 (fun h_9 S9 e9 => ?_))
      have H := H h_9 S9 (by rw [e9, e7])
      exact pt_d (pt_vret gx66_143 ⟨rfl, H⟩)
  · have H := H.2 e3
    refine pt_d (pt_1 (fun n d => r_aloadn gx66_39 rfl) ?_)
    refine pt_d (pt_getR gx66_40 S tr_48_0 ?_)
    refine pt_d (pt_1 (fun n d => r_iloadn gx66_43 rfl) ?_)
    refine pt_d (pt_virt (as := [.int x3]) (r := []) gx66_44 rfl (show zmt[75]? = some zM75 from rfl) rfl rfl rfl rfl (c_75 S z3) (kqP (fun v11 h11 => ?_)))
    show Pt _ _ _ 47 _ [.int v11] _ _
    refine pt_d (pt_ifB_eq gx66_47 h11 (fun e12 => ?_) (fun e12 => ?_))
    · have H := H.1 e12
      refine pt_d (pt_iinc (c := 1) gx66_120 rfl z3 (fun v13 h13 => ?_))
      show Pt _ _ _ _ [some (.ref 48), some (.int x1), some (.ref q2), some (.int v13)] [] _ _
      refine pt_d (pt_1 (fun n d => r_goto gx66_123) ?_)
      exact H v13 h13
    · have H := H.2 e12
      refine pt_d (pt_1 (fun n d => r_aloadn gx66_50 rfl) ?_)
      refine pt_d (pt_getR gx66_51 S tr_48_1 ?_)
      refine pt_d (pt_1 (fun n d => r_iloadn gx66_54 rfl) ?_)
      refine pt_d (pt_1 (fun n d => r_iloadn gx66_55 rfl) ?_)
      obtain ⟨pr15, H⟩ := H
      refine pt_d (pt_virt (as := [.int x3, .int x1]) (r := []) gx66_56 rfl (show zmt[36]? = some zM36 from rfl) rfl rfl rfl rfl (c_36 S z3 z1 pr15) (kqP (fun v15 h15 => ?_)))
      show Pt _ _ _ 59 _ [.int v15] _ _
      refine pt_d (pt_ifB_eq gx66_59 h15 (fun e16 => ?_) (fun e16 => ?_))
      · have H := H.1 e16
        refine pt_d (pt_iinc (c := 1) gx66_120 rfl z3 (fun v17 h17 => ?_))
        show Pt _ _ _ _ [some (.ref 48), some (.int x1), some (.ref q2), some (.int v17)] [] _ _
        refine pt_d (pt_1 (fun n d => r_goto gx66_123) ?_)
        exact H v17 h17
      · have H := H.2 e16
        refine pt_d (pt_1 (fun n d => r_aloadn gx66_62 rfl) ?_)
        refine pt_d (pt_1 (fun n d => r_dup gx66_63 rfl) ?_)
        refine pt_d (pt_getI (B := 13) gx66_64 S (fun v18 h18 => ?_))
        refine pt_d (pt_iconst gx66_67 (fun v19 h19 => ?_))
        refine pt_d (pt_iadd gx66_68 h18 h19 (fun v20 h20 => ?_))
        refine pt_d (pt_putI (B := 13) gx66_69 S h20 (fun h_21 S21 e21 => ?_))
        refine pt_d (pt_1 (fun n d => r_aloadn gx66_72 rfl) ?_)
        refine pt_d (pt_1 (fun n d => r_dup gx66_73 rfl) ?_)
        refine pt_d (pt_getI (B := 14) gx66_74 S21 (fun v22 h22 => ?_))
        have h22 : v22.toInt = vw h 48 14 := by rw [h22, e21, up_j (by decide)]
        refine pt_d (pt_1 (fun n d => r_aloadn gx66_77 rfl) ?_)
        refine pt_d (pt_1 (fun n d => r_iloadn gx66_78 rfl) ?_)
        have H := H h_21 S21 (by rw [e21])
        obtain ⟨pr23, H⟩ := H
        refine pt_d (pt_virt (as := [.int x3]) (r := [.int v22, .ref 48]) gx66_79 rfl (show zmt[102]? = some zM102 from rfl) rfl rfl rfl rfl (c_102 S21 z3 pr23) (kqP (fun v23 h23 => ?_)))
        show Pt _ _ _ 82 _ [.int v23, .int v22, .ref 48] _ _
        refine pt_d (pt_iconst gx66_82 (fun v24 h24 => ?_))
        refine pt_d (pt_icmp_le gx66_83 h23 h24 (fun e25 => ?_) (fun e25 => ?_))
        · have H := H.1 e25
          refine pt_d (pt_iconst gx66_90 (fun v26 h26 => ?_))
          refine pt_d (pt_iadd gx66_91 h22 h26 (fun v27 h27 => ?_))
          refine pt_d (pt_putI (B := 14) gx66_92 S21 h27 (fun h_28 S28 e28 => ?_))
          refine pt_d (pt_1 (fun n d => r_aloadn gx66_95 rfl) ?_)
          refine pt_d (pt_getI (B := 13) gx66_96 S28 (fun v29 h29 => ?_))
          have h29 : v29.toInt = vw h_21 48 13 := by rw [h29, e28, up_j (by decide)]
          refine pt_d (pt_bipush gx66_99 (fun v30 h30 => ?_))
          refine pt_d (pt_icmp_gt gx66_101 h29 h30 (fun e31 => ?_) (fun e31 => ?_))
          · have H := H.1 e31
            refine pt_d (pt_iinc (c := 1) gx66_120 rfl z3 (fun v32 h32 => ?_))
            show Pt _ _ _ _ [some (.ref 48), some (.int x1), some (.ref q2), some (.int v32)] [] _ _
            refine pt_d (pt_1 (fun n d => r_goto gx66_123) ?_)
            have H := H h_28 S28 (by rw [e28])
            exact H v32 h32
          · have H := H.2 e31
            refine pt_d (pt_1 (fun n d => r_aloadn gx66_104 rfl) ?_)
            refine pt_d (pt_1 (fun n d => r_aloadn gx66_105 rfl) ?_)
            refine pt_d (pt_getI (B := 13) gx66_106 S28 (fun v33 h33 => ?_))
            have h33 : v33.toInt = vw h_21 48 13 := by rw [h33, e28, up_j (by decide)]
            refine pt_d (pt_putI (B := 15) gx66_109 S28 h33 (fun h_34 S34 e34 => ?_))
            refine pt_d (pt_1 (fun n d => r_aloadn gx66_112 rfl) ?_)
            refine pt_d (pt_1 (fun n d => r_aloadn gx66_113 rfl) ?_)
            refine pt_d (pt_getI (B := 14) gx66_114 S34 (fun v35 h35 => ?_))
            have h35 : v35.toInt = w32 ((vw h 48 14) + 0) := by rw [h35, e34, up_j (by decide), e28, up_s]
            refine pt_d (pt_putI (B := 16) gx66_117 S34 h35 (fun h_36 S36 e36 => ?_))
            refine pt_d (pt_iinc (c := 1) gx66_120 rfl z3 (fun v37 h37 => ?_))
            show Pt _ _ _ _ [some (.ref 48), some (.int x1), some (.ref q2), some (.int v37)] [] _ _
            refine pt_d (pt_1 (fun n d => r_goto gx66_123) ?_)
            have H := H h_36 S36 (by rw [e36, e34, e28])
            exact H v37 h37
        · have H := H.2 e25
          refine pt_d (pt_iconst gx66_86 (fun v38 h38 => ?_))
          refine pt_d (pt_1 (fun n d => r_goto gx66_87) ?_)
          refine pt_d (pt_iadd gx66_91 h22 h38 (fun v39 h39 => ?_))
          refine pt_d (pt_putI (B := 14) gx66_92 S21 h39 (fun h_40 S40 e40 => ?_))
          refine pt_d (pt_1 (fun n d => r_aloadn gx66_95 rfl) ?_)
          refine pt_d (pt_getI (B := 13) gx66_96 S40 (fun v41 h41 => ?_))
          have h41 : v41.toInt = vw h_21 48 13 := by rw [h41, e40, up_j (by decide)]
          refine pt_d (pt_bipush gx66_99 (fun v42 h42 => ?_))
          refine pt_d (pt_icmp_gt gx66_101 h41 h42 (fun e43 => ?_) (fun e43 => ?_))
          · have H := H.1 e43
            refine pt_d (pt_iinc (c := 1) gx66_120 rfl z3 (fun v44 h44 => ?_))
            show Pt _ _ _ _ [some (.ref 48), some (.int x1), some (.ref q2), some (.int v44)] [] _ _
            refine pt_d (pt_1 (fun n d => r_goto gx66_123) ?_)
            have H := H h_40 S40 (by rw [e40])
            exact H v44 h44
          · have H := H.2 e43
            refine pt_d (pt_1 (fun n d => r_aloadn gx66_104 rfl) ?_)
            refine pt_d (pt_1 (fun n d => r_aloadn gx66_105 rfl) ?_)
            refine pt_d (pt_getI (B := 13) gx66_106 S40 (fun v45 h45 => ?_))
            have h45 : v45.toInt = vw h_21 48 13 := by rw [h45, e40, up_j (by decide)]
            refine pt_d (pt_putI (B := 15) gx66_109 S40 h45 (fun h_46 S46 e46 => ?_))
            refine pt_d (pt_1 (fun n d => r_aloadn gx66_112 rfl) ?_)
            refine pt_d (pt_1 (fun n d => r_aloadn gx66_113 rfl) ?_)
            refine pt_d (pt_getI (B := 14) gx66_114 S46 (fun v47 h47 => ?_))
            have h47 : v47.toInt = w32 ((vw h 48 14) + 1) := by rw [h47, e46, up_j (by decide), e40, up_s]
            refine pt_d (pt_putI (B := 16) gx66_117 S46 h47 (fun h_48 S48 e48 => ?_))
            refine pt_d (pt_iinc (c := 1) gx66_120 rfl z3 (fun v49 h49 => ?_))
            show Pt _ _ _ _ [some (.ref 48), some (.int x1), some (.ref q2), some (.int v49)] [] _ _
            refine pt_d (pt_1 (fun n d => r_goto gx66_123) ?_)
            have H := H h_48 S48 (by rw [e48, e46, e40])
            exact H v49 h49
end

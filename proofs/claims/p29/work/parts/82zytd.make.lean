-- ===== seasons: the class makes =====
theorem d98_0 {n : Nat} {X : aX} {h : aH} {P : Int → aH → Prop} {x1 x2 : Int32} {a1 a2 : Int} {q0 : Nat} (S : wS h) (z1 : x1.toInt = a1) (z2 : x2.toInt = a2) (H : (∀ (w3 : Int32), w3.toInt = 0 → Pt n X zM98 2 [some (.ref q0), some (.int x1), some (.int x2), some (.int w3)] [] h (qI P))) : Pt (n + 1) X zM98 0 [some (.ref q0), some (.int x1), some (.int x2), none] [] h (qI P) := by
  refine pt_iconst gx98_0 (fun v1 h1 => ?_)
  refine pt_d (pt_1 (fun n d => r_istoren (L' := [some (.ref q0), some (.int x1), some (.int x2), some (.int v1)]) gx98_1 rfl rfl) ?_)
  exact H v1 h1
theorem d98_2 {n : Nat} {X : aX} {h : aH} {P : Int → aH → Prop} {x1 x2 x3 : Int32} {a1 a2 a3 : Int} {q0 : Nat} (S : wS h) (z1 : x1.toInt = a1) (z2 : x2.toInt = a2) (z3 : x3.toInt = a3) (H : ((vw h q0 5 ≤ a3 → P (-1) h) ∧ (a3 < vw h q0 5 → ((vw h q0 1 = ((16 : Nat) : Int) ∧ vw h q0 6 = ((q0 + 1 : Nat) : Int)) ∧ (((vw h) 17 ((vw h) (q0 + 1) a3) ≠ a1 → (∀ (w3 : Int32), w3.toInt = w32 (a3 + 1) → Pt n X zM98 2 [some (.ref q0), some (.int x1), some (.int x2), some (.int w3)] [] h (qI P))) ∧ ((vw h) 17 ((vw h) (q0 + 1) a3) = a1 → ((vw h q0 1 = ((16 : Nat) : Int) ∧ vw h q0 6 = ((q0 + 1 : Nat) : Int)) ∧ (((vw h) 18 ((vw h) (q0 + 1) a3) ≠ a2 → (∀ (w3 : Int32), w3.toInt = w32 (a3 + 1) → Pt n X zM98 2 [some (.ref q0), some (.int x1), some (.int x2), some (.int w3)] [] h (qI P))) ∧ ((vw h) 18 ((vw h) (q0 + 1) a3) = a2 → P a3 h))))))))) : Pt (n + 1) X zM98 2 [some (.ref q0), some (.int x1), some (.int x2), some (.int x3)] [] h (qI P) := by
  refine pt_1 (fun n d => r_iloadn gx98_2 rfl) ?_
  refine pt_d (pt_1 (fun n d => r_aloadn gx98_3 rfl) ?_)
  refine pt_d (pt_getI (B := 5) gx98_4 S (fun v1 h1 => ?_))
  refine pt_d (pt_icmp_ge gx98_7 z3 h1 (fun e2 => ?_) (fun e2 => ?_))
  · have H := H.1 e2
    refine pt_d (pt_iconst gx98_36 (fun v3 h3 => ?_))
    exact pt_d (pt_iret gx98_37 ⟨_, rfl, by rw [h3]; exact H⟩)
  · have H := H.2 e2
    refine pt_d (pt_1 (fun n d => r_aloadn gx98_10 rfl) ?_)
    refine pt_d (pt_1 (fun n d => r_iloadn gx98_11 rfl) ?_)
    obtain ⟨pr4, H⟩ := H
    refine pt_d (pt_virt (as := [.int x3]) (r := []) gx98_12 rfl (show zmt[100]? = some zM100 from rfl) rfl rfl rfl rfl (c_100 S z3 pr4) (kqP (fun v4 h4 => ?_)))
    show Pt _ _ _ 15 _ [.int v4] _ _
    refine pt_d (pt_1 (fun n d => r_iloadn gx98_15 rfl) ?_)
    refine pt_d (pt_icmp_ne gx98_16 h4 z1 (fun e5 => ?_) (fun e5 => ?_))
    · have H := H.1 e5
      refine pt_d (pt_iinc (c := 1) gx98_30 rfl z3 (fun v6 h6 => ?_))
      show Pt _ _ _ _ [some (.ref q0), some (.int x1), some (.int x2), some (.int v6)] [] _ _
      refine pt_d (pt_1 (fun n d => r_goto gx98_33) ?_)
      exact H v6 h6
    · have H := H.2 e5
      refine pt_d (pt_1 (fun n d => r_aloadn gx98_19 rfl) ?_)
      refine pt_d (pt_1 (fun n d => r_iloadn gx98_20 rfl) ?_)
      obtain ⟨pr7, H⟩ := H
      refine pt_d (pt_virt (as := [.int x3]) (r := []) gx98_21 rfl (show zmt[101]? = some zM101 from rfl) rfl rfl rfl rfl (c_101 S z3 pr7) (kqP (fun v7 h7 => ?_)))
      show Pt _ _ _ 24 _ [.int v7] _ _
      refine pt_d (pt_1 (fun n d => r_iloadn gx98_24 rfl) ?_)
      refine pt_d (pt_icmp_ne gx98_25 h7 z2 (fun e8 => ?_) (fun e8 => ?_))
      · have H := H.1 e8
        refine pt_d (pt_iinc (c := 1) gx98_30 rfl z3 (fun v9 h9 => ?_))
        show Pt _ _ _ _ [some (.ref q0), some (.int x1), some (.int x2), some (.int v9)] [] _ _
        refine pt_d (pt_1 (fun n d => r_goto gx98_33) ?_)
        exact H v9 h9
      · have H := H.2 e8
        refine pt_d (pt_1 (fun n d => r_iloadn gx98_28 rfl) ?_)
        exact pt_d (pt_iret gx98_29 ⟨_, rfl, by rw [z3]; exact H⟩)
def plc (V : vS) (q : Nat) (f b r : Int) : Prop := (r = -1 ∧ ∀ i, 0 ≤ i → i < V q 5 → ¬ (fmA V (q + 1) i = f ∧ fdA V (q + 1) i = b)) ∨ ((0 ≤ r ∧ r < V q 5) ∧ fmA V (q + 1) r = f ∧ fdA V (q + 1) r = b)
theorem l_98 {X : aX} {h : aH} {f b : Int} {q0 : Nat} (S : wS h) (k1 : vw h q0 1 = ((16 : Nat) : Int)) (k6 : vw h q0 6 = ((q0 + 1 : Nat) : Int)) (hN : vw h q0 5 ≤ 300) : ∀ (n : Nat) (x1 x2 x3 : Int32) (i : Int), x1.toInt = f → x2.toInt = b → x3.toInt = i → 0 ≤ i → (∀ i', 0 ≤ i' → i' < i → ¬ (fmA (vw h) (q0 + 1) i' = f ∧ fdA (vw h) (q0 + 1) i' = b)) → Pt n X zM98 2 [some (.ref q0), some (.int x1), some (.int x2), some (.int x3)] [] h (qI (fun r h' => wS h' ∧ h' = h ∧ plc (vw h) q0 f b r)) := by
  intro n
  induction n with
  | zero => exact fun _ _ _ _ _ _ _ _ _ => pt_z
  | succ n ih =>
    intro x1 x2 x3 i h1 h2 h3 i0 no
    have next : ∀ w3 : Int32, i < vw h q0 5 → ¬ (fmA (vw h) (q0 + 1) i = f ∧ fdA (vw h) (q0 + 1) i = b) → w3.toInt = w32 (i + 1) → Pt n X zM98 2 [some (.ref q0), some (.int x1), some (.int x2), some (.int w3)] [] h (qI (fun r h' => wS h' ∧ h' = h ∧ plc (vw h) q0 f b r)) := by
      intro w3 lt nl g3
      replace g3 := w_1 g3 (by omega) (by omega)
      refine ih x1 x2 w3 (i + 1) h1 h2 g3 (by omega) (fun i' a z => ?_)
      by_cases w : i' = i
      · rw [w]; exact nl
      · exact no i' a (by omega)
    exact d98_2 S h1 h2 h3 ⟨fun e => ⟨S, rfl, Or.inl ⟨rfl, fun i' a z => no i' a (by omega)⟩⟩, fun e => ⟨⟨k1, k6⟩, fun e2 w3 g3 => next w3 e (fun z => e2 z.1) g3, fun e2 => ⟨⟨k1, k6⟩, fun e3 w3 g3 => next w3 e (fun z => e3 z.2) g3, fun e3 => ⟨S, rfl, Or.inr ⟨⟨i0, e⟩, e2, e3⟩⟩⟩⟩⟩
theorem c_98 {n : Nat} {X : aX} {h : aH} {x1 x2 : Int32} {a1 a2 : Int} {q0 : Nat} (S : wS h) (z1 : x1.toInt = a1) (z2 : x2.toInt = a2) (hp : vw h q0 1 = ((16 : Nat) : Int) ∧ vw h q0 6 = ((q0 + 1 : Nat) : Int) ∧ vw h q0 5 ≤ 300) : Pt n X zM98 0 [some (.ref q0), some (.int x1), some (.int x2), none] [] h (qI (fun r h' => wS h' ∧ h' = h ∧ plc (vw h) q0 a1 a2 r)) :=
  pt_d (d98_0 S z1 z2 (fun w3 g3 => l_98 S hp.1 hp.2.1 hp.2.2 n x1 x2 w3 0 z1 z2 g3 (Int.le_refl _) (fun i' a z => by omega)))


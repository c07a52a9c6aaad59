-- ===== what is seen of fields =====
theorem e332_0 {n : Nat} {X : aX} {h : aH} {P : aH → Prop} {x1 : Int32} {a1 : Int} {q0 : Nat} (S : wS h) (z1 : x1.toInt = a1) (H : ∃ N2 : Nat, (∃ t y, h.1[q0]? = some (.inl (t, N2, y))) ∧ N2 < 2147483648 ∧ (∀ (w2 : Int32) (w3 : Int32), w2.toInt = 0 → w3.toInt = (N2 : Int) → Pt n X zM332 5 [some (.ref q0), some (.int x1), some (.int w2), some (.int w3)] [] h (qN P))) : Pt (n + 1) X zM332 0 [some (.ref q0), some (.int x1), none, none] [] h (qN P) := by
  refine pt_iconst gx332_0 (fun v1 h1 => ?_)
  refine pt_d (pt_1 (fun n d => r_istoren (L' := [some (.ref q0), some (.int x1), some (.int v1), none]) gx332_1 rfl rfl) ?_)
  refine pt_d (pt_1 (fun n d => r_aloadn gx332_2 rfl) ?_)
  obtain ⟨N2, ⟨t2, y2, c2⟩, b2, H⟩ := H
  refine pt_d (pt_alenD gx332_3 c2 b2 (fun v2 h2 => ?_))
  refine pt_d (pt_1 (fun n d => r_istoren (L' := [some (.ref q0), some (.int x1), some (.int v1), some (.int v2)]) gx332_4 rfl rfl) ?_)
  exact H v1 v2 h1 h2
theorem e332_5 {n : Nat} {X : aX} {h : aH} {P : aH → Prop} {x1 x2 x3 : Int32} {a1 a2 a3 : Int} {q0 : Nat} (S : wS h) (z1 : x1.toInt = a1) (z2 : x2.toInt = a2) (z3 : x3.toInt = a3) (H : ((a3 ≤ a2 → P h) ∧ (a2 < a3 → (0 ≤ a2 → ∀ h_2 : aH, wS h_2 → vw h_2 = up (vw h) q0 a2 a1 → (∀ (w2 : Int32), w2.toInt = w32 (a2 + 1) → Pt n X zM332 5 [some (.ref q0), some (.int x1), some (.int w2), some (.int x3)] [] h_2 (qN P)))))) : Pt (n + 1) X zM332 5 [some (.ref q0), some (.int x1), some (.int x2), some (.int x3)] [] h (qN P) := by
  refine pt_1 (fun n d => r_iloadn gx332_5 rfl) ?_
  refine pt_d (pt_1 (fun n d => r_iloadn gx332_6 rfl) ?_)
  refine pt_d (pt_icmp_ge gx332_7 z2 z3 (fun e1 => ?_) (fun e1 => ?_))
  · have H := H.1 e1
    exact pt_d (pt_vret gx332_20 ⟨rfl, H⟩)
  · have H := H.2 e1
    refine pt_d (pt_1 (fun n d => r_aloadn gx332_10 rfl) ?_)
    refine pt_d (pt_1 (fun n d => r_iloadn gx332_11 rfl) ?_)
    refine pt_d (pt_1 (fun n d => r_iloadn gx332_12 rfl) ?_)
    refine pt_d (pt_iastD gx332_13 S z2 z1 (fun h_2 S2 p2 e2 => ?_))
    have H := H p2
    refine pt_d (pt_iinc (c := 1) gx332_14 rfl z2 (fun v3 h3 => ?_))
    show Pt _ _ _ _ [some (.ref q0), some (.int x1), some (.int v3), some (.int x3)] [] _ _
    refine pt_d (pt_1 (fun n d => r_goto gx332_17) ?_)
    have H := H h_2 S2 (by rw [e2])
    exact H v3 h3
theorem m_332 {X : aX} {V : vS} {q N : Nat} {v : Int} (hN : N < 2147483648) : ∀ (n : Nat) (h : aH) (x1 x2 x3 : Int32), wS h → x1.toInt = v → x3.toInt = (N : Int) → 0 ≤ x2.toInt → x2.toInt ≤ (N : Int) → vw h = fillV V q 0 x2.toInt v → Pt n X zM332 5 [some (.ref q), some (.int x1), some (.int x2), some (.int x3)] [] h (qN (fun h' => wS h' ∧ vw h' = fillV V q 0 (N : Int) v)) := by
  intro n
  induction n with
  | zero => exact fun _ _ _ _ _ _ _ _ _ _ => pt_z
  | succ n ih =>
    intro h x1 x2 x3 S h1 h3 p p2 e
    refine e332_5 S h1 rfl h3 ⟨fun e2 => ⟨S, ?_⟩, fun e2 p3 g S2 eg w2 g2 => ?_⟩
    · rw [e, show x2.toInt = (N : Int) by omega]
    · replace g2 := w_1 g2 (by omega) (by omega)
      refine ih g x1 w2 x3 S2 h1 h3 (by omega) (by omega) ?_
      rw [eg, e, g2]
      exact fillV_s p
theorem k_332 {n : Nat} {X : aX} {h : aH} {x1 : Int32} {a1 : Int} {q0 : Nat} (S : wS h) (z1 : x1.toInt = a1) (N : Nat) (hc : (∃ t y, h.1[q0]? = some (.inl (t, N, y))) ∧ N < 2147483648) : Pt n X zM332 0 [some (.ref q0), some (.int x1), none, none] [] h (qN (fun h' => wS h' ∧ vw h' = fillV (vw h) q0 0 (N : Int) a1)) := by
  refine pt_d (e332_0 S z1 ⟨N, hc.1, hc.2, fun w2 w3 g2 g3 => m_332 hc.2 n h x1 w2 w3 S z1 g3 (by omega) (by omega) ?_⟩)
  rw [g2, fillV_0]


-- ===== by hand: draw (the second search) =====
theorem f292_240 : aF 240 zM292.2.2.2.2.2.2.2 = some (240, (.iload 9), 2, 0, 0) := by decide +kernel
theorem f292_242 : aF 242 zM292.2.2.2.2.2.2.2 = some (242, (.aload_n 0), 1, 0, 0) := by decide +kernel
theorem f292_243 : aF 243 zM292.2.2.2.2.2.2.2 = some (243, (.getfield 265), 3, 12, 2) := by decide +kernel
theorem f292_246 : aF 246 zM292.2.2.2.2.2.2.2 = some (246, (.if_icmp .ge 39), 3, 285, 0) := by decide +kernel
theorem f292_249 : aF 249 zM292.2.2.2.2.2.2.2 = some (249, (.iload 7), 2, 0, 0) := by decide +kernel
theorem f292_251 : aF 251 zM292.2.2.2.2.2.2.2 = some (251, (.ifCond .ge 34), 3, 285, 0) := by decide +kernel
theorem f292_254 : aF 254 zM292.2.2.2.2.2.2.2 = some (254, (.aload_n 0), 1, 0, 0) := by decide +kernel
theorem f292_255 : aF 255 zM292.2.2.2.2.2.2.2 = some (255, (.getfield 219), 3, 12, 86) := by decide +kernel
theorem f292_258 : aF 258 zM292.2.2.2.2.2.2.2 = some (258, (.iload 9), 2, 0, 0) := by decide +kernel
theorem f292_260 : aF 260 zM292.2.2.2.2.2.2.2 = some (260, .baload, 1, 0, 0) := by decide +kernel
theorem f292_261 : aF 261 zM292.2.2.2.2.2.2.2 = some (261, (.ifCond .ne 6), 3, 267, 0) := by decide +kernel
theorem f292_264 : aF 264 zM292.2.2.2.2.2.2.2 = some (264, (.goto 15), 3, 279, 0) := by decide +kernel
theorem f292_267 : aF 267 zM292.2.2.2.2.2.2.2 = some (267, (.iload 8), 2, 0, 0) := by decide +kernel
theorem f292_269 : aF 269 zM292.2.2.2.2.2.2.2 = some (269, (.ifCond .ne 7), 3, 276, 0) := by decide +kernel
theorem f292_272 : aF 272 zM292.2.2.2.2.2.2.2 = some (272, (.iload 9), 2, 0, 0) := by decide +kernel
theorem f292_274 : aF 274 zM292.2.2.2.2.2.2.2 = some (274, (.istore 7), 2, 0, 0) := by decide +kernel
theorem f292_276 : aF 276 zM292.2.2.2.2.2.2.2 = some (276, (.iinc 8 (-1)), 3, 0, 0) := by decide +kernel
theorem f292_279 : aF 279 zM292.2.2.2.2.2.2.2 = some (279, (.iinc 9 1), 3, 0, 0) := by decide +kernel
theorem f292_282 : aF 282 zM292.2.2.2.2.2.2.2 = some (282, (.goto (-42)), 3, 240, 0) := by decide +kernel
theorem drawB {X : aX} {D : Nat} {Q : Option Value → aH → Prop} {x1 x2 x3 x4 x5 x6 nb : Int32} {g : Nat → Int32} {σ : List Nat} {h : aH} {fs : List Value} {rr : Int} (n0 : 0 ≤ nb.toInt) (n1 : nb.toInt ≤ 150) (c135 : h.1[135]? = some (.inl (2, 150, .inl g))) (c72 : h.1[72]? = some (.inr (12, fs))) (F72_2 : fs[2]? = some (.int nb)) (F72_86 : fs[86]? = some (.ref 135)) (hr : rr < cntN g nb.toInt.toNat)
    (kq : ∀ (x7' x8' x9' : Int32), 0 ≤ x7'.toInt → x7'.toInt.toNat < nb.toInt.toNat → (g x7'.toInt.toNat).toInt ≠ 0 → Wp X D zM292 Q 285 [some (.ref 72), some (.int x1), some (.int x2), some (.int x3), some (.int x4), some (.int x5), some (.int x6), some (.int x7'), some (.int x8'), some (.int x9')] [] h) : ∀ (k : Nat) (x7 x8 x9 : Int32), (nb.toInt - x9.toInt).toNat = k → 0 ≤ x9.toInt → x9.toInt ≤ nb.toInt →
    (x7.toInt = -1 ∧ 0 ≤ x8.toInt ∧ x8.toInt + cntN g x9.toInt.toNat = rr ∨ 0 ≤ x7.toInt ∧ x7.toInt.toNat < nb.toInt.toNat ∧ (g x7.toInt.toNat).toInt ≠ 0) → Wp X D zM292 Q 240 [some (.ref 72), some (.int x1), some (.int x2), some (.int x3), some (.int x4), some (.int x5), some (.int x6), some (.int x7), some (.int x8), some (.int x9)] [] h := by
  intro k
  induction k with
  | zero =>
    intro x7 x8 x9 hk a0 a1 inv
    refine wp1 (fun n d => r_iload f292_240 rfl) ?_
    refine wp1 (fun n d => r_aloadn f292_242 rfl) ?_
    refine w_get f292_243 c72 F72_2 ?_
    refine w_icmp_ge f292_246 (fun e => ?_) (fun e => absurd e (by omega))
    rcases inv with ⟨i1, i2, i3⟩ | ⟨i1, i2, i3⟩
    · rw [show x9.toInt.toNat = nb.toInt.toNat by omega] at i3
      omega
    · exact kq x7 x8 x9 i1 i2 i3
  | succ k ih =>
    intro x7 x8 x9 hk a0 a1 inv
    have r8 := iR x8
    refine wp1 (fun n d => r_iload f292_240 rfl) ?_
    refine wp1 (fun n d => r_aloadn f292_242 rfl) ?_
    refine w_get f292_243 c72 F72_2 ?_
    refine w_icmp_ge f292_246 (fun e => absurd e (by omega)) (fun e => ?_)
    have hc : cntN g (x9.toInt.toNat + 1) = cntN g x9.toInt.toNat + (if (g x9.toInt.toNat).toInt = 0 then 0 else 1) := rfl
    have k279 : ∀ (x7' x8' : Int32), (x7'.toInt = -1 ∧ 0 ≤ x8'.toInt ∧ x8'.toInt + cntN g (x9.toInt.toNat + 1) = rr ∨ 0 ≤ x7'.toInt ∧ x7'.toInt.toNat < nb.toInt.toNat ∧ (g x7'.toInt.toNat).toInt ≠ 0) → Wp X D zM292 Q 279 [some (.ref 72), some (.int x1), some (.int x2), some (.int x3), some (.int x4), some (.int x5), some (.int x6), some (.int x7'), some (.int x8'), some (.int x9)] [] h := by
      intro x7' x8' inv1
      refine w_iinc f292_279 rfl (by omega) (by omega) (fun v279 hv279 => ?_)
      show Wp _ _ _ _ 282 [some (.ref 72), some (.int x1), some (.int x2), some (.int x3), some (.int x4), some (.int x5), some (.int x6), some (.int x7'), some (.int x8'), some (.int v279)] _ _
      refine wp1 (fun n d => r_goto f292_282) ?_
      have e1 : v279.toInt.toNat = x9.toInt.toNat + 1 := by omega
      exact ih x7' x8' v279 (by omega) (by omega) (by omega) (by rw [e1]; exact inv1)
    refine wp1 (fun n d => r_iload f292_249 rfl) ?_
    rcases inv with ⟨i1, i2, i3⟩ | ⟨i1, i2, i3⟩
    · refine w_if_ge f292_251 (fun e2 => absurd e2 (by omega)) (fun _ => ?_)
      refine wp1 (fun n d => r_aloadn f292_254 rfl) ?_
      refine w_get f292_255 c72 F72_86 ?_
      refine wp1 (fun n d => r_iload f292_258 rfl) ?_
      refine w_zald f292_260 c135 (by omega) (by omega) (fun v260 hv260 => ?_)
      refine w_if_ne f292_261 (fun e3 => ?_) (fun e3 => ?_)
      · rw [hv260] at e3
        refine wp1 (fun n d => r_iload f292_267 rfl) ?_
        refine w_if_ne f292_269 (fun e4 => ?_) (fun e4 => ?_)
        · refine w_iinc f292_276 rfl (by omega) (by omega) (fun v276 hv276 => ?_)
          show Wp _ _ _ _ 279 [some (.ref 72), some (.int x1), some (.int x2), some (.int x3), some (.int x4), some (.int x5), some (.int x6), some (.int x7), some (.int v276), some (.int x9)] _ _
          exact k279 x7 v276 (Or.inl ⟨i1, by omega, by rw [hc, if_neg e3]; omega⟩)
        · refine wp1 (fun n d => r_iload f292_272 rfl) ?_
          refine wp1 (fun n d => r_istore (L' := [some (.ref 72), some (.int x1), some (.int x2), some (.int x3), some (.int x4), some (.int x5), some (.int x6), some (.int x9), some (.int x8), some (.int x9)]) f292_274 rfl rfl) ?_
          refine w_iinc f292_276 rfl (by omega) (by omega) (fun v276 hv276 => ?_)
          show Wp _ _ _ _ 279 [some (.ref 72), some (.int x1), some (.int x2), some (.int x3), some (.int x4), some (.int x5), some (.int x6), some (.int x9), some (.int v276), some (.int x9)] _ _
          exact k279 x9 v276 (Or.inr ⟨a0, by omega, e3⟩)
      · rw [hv260] at e3
        refine wp1 (fun n d => r_goto f292_264) ?_
        exact k279 x7 x8 (Or.inl ⟨i1, i2, by rw [hc, if_pos e3]; omega⟩)
    · exact w_if_ge f292_251 (fun _ => kq x7 x8 x9 i1 i2 i3) (fun e2 => absurd e2 (by omega))

-- ===== by hand: draw (the first search) =====
theorem f292_152 : aF 152 zM292.2.2.2.2.2.2.2 = some (152, (.iload 8), 2, 0, 0) := by decide +kernel
theorem f292_154 : aF 154 zM292.2.2.2.2.2.2.2 = some (154, (.aload_n 0), 1, 0, 0) := by decide +kernel
theorem f292_155 : aF 155 zM292.2.2.2.2.2.2.2 = some (155, (.getfield 265), 3, 12, 2) := by decide +kernel
theorem f292_158 : aF 158 zM292.2.2.2.2.2.2.2 = some (158, (.if_icmp .ge 45), 3, 203, 0) := by decide +kernel
theorem f292_161 : aF 161 zM292.2.2.2.2.2.2.2 = some (161, (.aload_n 0), 1, 0, 0) := by decide +kernel
theorem f292_162 : aF 162 zM292.2.2.2.2.2.2.2 = some (162, (.getfield 219), 3, 12, 86) := by decide +kernel
theorem f292_165 : aF 165 zM292.2.2.2.2.2.2.2 = some (165, (.iload 8), 2, 0, 0) := by decide +kernel
theorem f292_167 : aF 167 zM292.2.2.2.2.2.2.2 = some (167, .baload, 1, 0, 0) := by decide +kernel
theorem f292_168 : aF 168 zM292.2.2.2.2.2.2.2 = some (168, (.ifCond .eq 29), 3, 197, 0) := by decide +kernel
theorem f292_171 : aF 171 zM292.2.2.2.2.2.2.2 = some (171, (.iload 7), 2, 0, 0) := by decide +kernel
theorem f292_173 : aF 173 zM292.2.2.2.2.2.2.2 = some (173, (.ifCond .lt 20), 3, 193, 0) := by decide +kernel
theorem f292_176 : aF 176 zM292.2.2.2.2.2.2.2 = some (176, (.aload_n 0), 1, 0, 0) := by decide +kernel
theorem f292_177 : aF 177 zM292.2.2.2.2.2.2.2 = some (177, (.iload 8), 2, 0, 0) := by decide +kernel
theorem f292_179 : aF 179 zM292.2.2.2.2.2.2.2 = some (179, (.iload_n 2), 1, 0, 0) := by decide +kernel
theorem f292_180 : aF 180 zM292.2.2.2.2.2.2.2 = some (180, (.invokevirtual 532), 3, 293, 0) := by decide +kernel
theorem f292_183 : aF 183 zM292.2.2.2.2.2.2.2 = some (183, (.aload_n 0), 1, 0, 0) := by decide +kernel
theorem f292_184 : aF 184 zM292.2.2.2.2.2.2.2 = some (184, (.iload 7), 2, 0, 0) := by decide +kernel
theorem f292_186 : aF 186 zM292.2.2.2.2.2.2.2 = some (186, (.iload_n 2), 1, 0, 0) := by decide +kernel
theorem f292_187 : aF 187 zM292.2.2.2.2.2.2.2 = some (187, (.invokevirtual 532), 3, 293, 0) := by decide +kernel
theorem f292_190 : aF 190 zM292.2.2.2.2.2.2.2 = some (190, (.if_icmp .le 7), 3, 197, 0) := by decide +kernel
theorem f292_193 : aF 193 zM292.2.2.2.2.2.2.2 = some (193, (.iload 8), 2, 0, 0) := by decide +kernel
theorem f292_195 : aF 195 zM292.2.2.2.2.2.2.2 = some (195, (.istore 7), 2, 0, 0) := by decide +kernel
theorem f292_197 : aF 197 zM292.2.2.2.2.2.2.2 = some (197, (.iinc 8 1), 3, 0, 0) := by decide +kernel
theorem f292_200 : aF 200 zM292.2.2.2.2.2.2.2 = some (200, (.goto (-48)), 3, 152, 0) := by decide +kernel
theorem risk_call {X : aX} {D : Nat} (G : dGood X cC305) {Q : Option Value → aH → Prop} {x2 b : Int32} {l : aL} {r : List Value} {pc : Nat} {σ : List Nat} {h : aH} {fs : List Value} (hf : aF pc zM292.2.2.2.2.2.2.2 = some (pc, (.invokevirtual 532), 3, 293, 0)) (c72 : h.1[72]? = some (.inr (12, fs))) (I : dI σ h) (b0 : 0 ≤ b.toInt) (b1 : b.toInt ≤ 149) (y0 : 0 ≤ x2.toInt) (y1 : x2.toInt ≤ 9) (h8 : Nat.ble (aws r) 8 = true) (hd : 3 + 1 ≤ D)
    (k : ∀ (v : Int32) (h1 : aH) (σ1 : List Nat), dI σ1 h1 → dG [] σ h σ1 h1 → Wp X D zM292 Q (pc + 3) l (.int v :: r) h1) : Wp X D zM292 Q pc l (.int x2 :: .int b :: .ref 72 :: r) h := by
  refine wp_good G (Y := zM293) (show zmt[293]? = some zM293 from rfl) I (ρ := [0, b.toInt, x2.toInt]) (dK_v (kV_of rfl ⟨⟨by decide, by decide⟩, ⟨b0, b1⟩, ⟨y0, y1⟩, trivial⟩)) (dL_of (l := [some (.ref 72), some (.int b), some (.int x2)]) ⟨lw_r (by decide), lw_i rfl, lw_i rfl, trivial⟩) (fun n d v h' e => r_virt (as := [.int b, .int x2]) (r := r) hf c72 (show zmt[293]? = some zM293 from rfl) rfl rfl rfl rfl h8 rfl e) hd (fun v h1 σ1 I1 G1 P1 => ?_)
  obtain ⟨x, rfl, -, -⟩ := rpost_i P1 rfl
  exact k x h1 σ1 I1 G1
theorem drawA {X : aX} {D : Nat} (G : dGood X cC305) (hD : 4 ≤ D) {Q : Option Value → aH → Prop} {x1 x2 x3 x4 x5 x6 nb : Int32} {u9 : Option Value} {g : Nat → Int32} (y0 : 0 ≤ x2.toInt) (y1 : x2.toInt ≤ 9) (n0 : 0 ≤ nb.toInt) (n1 : nb.toInt ≤ 150) : ∀ (k : Nat) (x7 x8 : Int32) (σ : List Nat) (h : aH) (fs : List Value), (nb.toInt - x8.toInt).toNat = k → 0 ≤ x8.toInt → x8.toInt ≤ nb.toInt → dI σ h → h.1[135]? = some (.inl (2, 150, .inl g)) → h.1[72]? = some (.inr (12, fs)) → fs[2]? = some (.int nb) → fs[86]? = some (.ref 135) → (x7.toInt = -1 ∧ cntN g x8.toInt.toNat = 0 ∨ 0 ≤ x7.toInt ∧ x7.toInt.toNat < x8.toInt.toNat ∧ (g x7.toInt.toNat).toInt ≠ 0) →
    (∀ (σ' : List Nat) (h' : aH) (x7' x8' : Int32), dI σ' h' → dG [] σ h σ' h' → (x7'.toInt = -1 ∧ cntN g nb.toInt.toNat = 0 ∨ 0 ≤ x7'.toInt ∧ x7'.toInt.toNat < nb.toInt.toNat ∧ (g x7'.toInt.toNat).toInt ≠ 0) → Wp X D zM292 Q 203 [some (.ref 72), some (.int x1), some (.int x2), some (.int x3), some (.int x4), some (.int x5), some (.int x6), some (.int x7'), some (.int x8'), u9] [] h') → Wp X D zM292 Q 152 [some (.ref 72), some (.int x1), some (.int x2), some (.int x3), some (.int x4), some (.int x5), some (.int x6), some (.int x7), some (.int x8), u9] [] h := by
  intro k
  induction k with
  | zero =>
    intro x7 x8 σ h fs hk a0 a1 I c135 c72 F72_2 F72_86 inv kq
    refine wp1 (fun n d => r_iload f292_152 rfl) ?_
    refine wp1 (fun n d => r_aloadn f292_154 rfl) ?_
    refine w_get f292_155 c72 F72_2 ?_
    refine w_icmp_ge f292_158 (fun e => kq σ h x7 x8 I (dG_refl _ _ _) ?_) (fun e => absurd e (by omega))
    rw [show nb.toInt.toNat = x8.toInt.toNat by omega]
    exact inv
  | succ k ih =>
    intro x7 x8 σ h fs hk a0 a1 I c135 c72 F72_2 F72_86 inv kq
    refine wp1 (fun n d => r_iload f292_152 rfl) ?_
    refine wp1 (fun n d => r_aloadn f292_154 rfl) ?_
    refine w_get f292_155 c72 F72_2 ?_
    refine w_icmp_ge f292_158 (fun e => absurd e (by omega)) (fun e => ?_)
    have hs : x8.toInt.toNat + 1 = (x8.toInt + 1).toNat := by omega
    have hc : cntN g (x8.toInt.toNat + 1) = cntN g x8.toInt.toNat + (if (g x8.toInt.toNat).toInt = 0 then 0 else 1) := rfl
    have k197 : ∀ (σ1 : List Nat) (h1 : aH) (x7' : Int32), dI σ1 h1 → dG [] σ h σ1 h1 → (x7'.toInt = -1 ∧ cntN g (x8.toInt.toNat + 1) = 0 ∨ 0 ≤ x7'.toInt ∧ x7'.toInt.toNat < (x8.toInt.toNat + 1) ∧ (g x7'.toInt.toNat).toInt ≠ 0) → Wp X D zM292 Q 197 [some (.ref 72), some (.int x1), some (.int x2), some (.int x3), some (.int x4), some (.int x5), some (.int x6), some (.int x7'), some (.int x8), u9] [] h1 := by
      intro σ1 h1 x7' I1 G1 inv1
      obtain ⟨fs1, d72, dfs⟩ := dG_o I.1 G1 c72 (by decide)
      have d135 := dG_a I.1 G1 c135 (by decide) rfl
      refine w_iinc f292_197 rfl (by omega) (by omega) (fun v197 hv197 => ?_)
      show Wp _ _ _ _ 200 [some (.ref 72), some (.int x1), some (.int x2), some (.int x3), some (.int x4), some (.int x5), some (.int x6), some (.int x7'), some (.int v197), u9] _ _
      refine wp1 (fun n d => r_goto f292_200) ?_
      have e1 : v197.toInt.toNat = x8.toInt.toNat + 1 := by omega
      exact ih x7' v197 σ1 h1 fs1 (by omega) (by omega) (by omega) I1 d135 d72 ((dfs 2 rfl).trans F72_2) ((dfs 86 rfl).trans F72_86) (by rw [e1]; exact inv1) (fun σ' h' y7 y8 I' G' inv' => kq σ' h' y7 y8 I' (dG_trans G1 G') inv')
    refine wp1 (fun n d => r_aloadn f292_161 rfl) ?_
    refine w_get f292_162 c72 F72_86 ?_
    refine wp1 (fun n d => r_iload f292_165 rfl) ?_
    refine w_zald f292_167 c135 (by omega) (by omega) (fun v167 hv167 => ?_)
    refine w_if_eq f292_168 (fun e2 => k197 σ h x7 I (dG_refl _ _ _) ?_) (fun e2 => ?_)
    · rw [hv167] at e2
      rcases inv with ⟨i1, i2⟩ | ⟨i1, i2, i3⟩
      · exact Or.inl ⟨i1, by rw [hc, i2, if_pos e2]⟩
      · exact Or.inr ⟨i1, by omega, i3⟩
    rw [hv167] at e2
    have k193 : ∀ (σ1 : List Nat) (h1 : aH), dI σ1 h1 → dG [] σ h σ1 h1 → Wp X D zM292 Q 193 [some (.ref 72), some (.int x1), some (.int x2), some (.int x3), some (.int x4), some (.int x5), some (.int x6), some (.int x7), some (.int x8), u9] [] h1 := by
      intro σ1 h1 I1 G1
      refine wp1 (fun n d => r_iload f292_193 rfl) ?_
      refine wp1 (fun n d => r_istore (L' := [some (.ref 72), some (.int x1), some (.int x2), some (.int x3), some (.int x4), some (.int x5), some (.int x6), some (.int x8), some (.int x8), u9]) f292_195 rfl rfl) ?_
      exact k197 σ1 h1 x8 I1 G1 (Or.inr ⟨a0, by omega, e2⟩)
    refine wp1 (fun n d => r_iload f292_171 rfl) ?_
    refine w_if_lt f292_173 (fun _ => k193 σ h I (dG_refl _ _ _)) (fun e3 => ?_)
    obtain ⟨i1, i2, i3⟩ : 0 ≤ x7.toInt ∧ x7.toInt.toNat < x8.toInt.toNat ∧ (g x7.toInt.toNat).toInt ≠ 0 := by
      rcases inv with ⟨i1, i2⟩ | i
      · omega
      · exact i
    refine wp1 (fun n d => r_aloadn f292_176 rfl) ?_
    refine wp1 (fun n d => r_iload f292_177 rfl) ?_
    refine wp1 (fun n d => r_iloadn f292_179 rfl) ?_
    refine risk_call G f292_180 c72 I (by omega) (by omega) y0 y1 rfl hD (fun v1 h1 σ1 I1 G1 => ?_)
    obtain ⟨fs1, d72, dfs⟩ := dG_o I.1 G1 c72 (by decide)
    refine wp1 (fun n d => r_aloadn f292_183 rfl) ?_
    refine wp1 (fun n d => r_iload f292_184 rfl) ?_
    refine wp1 (fun n d => r_iloadn f292_186 rfl) ?_
    refine risk_call G f292_187 d72 I1 (by omega) (by omega) y0 y1 rfl hD (fun v2 h2 σ2 I2 G2 => ?_)
    refine w_icmp_le f292_190 (fun _ => k197 σ2 h2 x7 I2 (dG_trans G1 G2) (Or.inr ⟨i1, by omega, i3⟩)) (fun _ => k193 σ2 h2 I2 (dG_trans G1 G2))

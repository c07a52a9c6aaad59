-- ===== the reference lays a text out =====
theorem k_out12 {V : vS} (h : V 72 65 < 0 → opB 12 (mT V (V 72 64)) = false) : kLo 12 V V :=
  ⟨kFs_r, fun e _ => ⟨_, [], kc_e (h e), rfl, by show V 72 68 = V 72 68 + ((0 : Nat) : Int); omega, trivial⟩⟩
theorem k_cho {V V4 V1 V2 : vS} {c : Int} (H : mlp V) (K : kpre V) (hf : V 72 65 < 0) (c0 : 0 ≤ c) (hc : mL V = c) (ho : opB 12 c = true) (e4 : V4 = up V 72 64 (w32 (V 72 64 + 1))) (c1 : mRes 3 V4 V1) (k1 : kRes 3 V4 V1) (l : RLay V1 c 0 V2) : kLo 12 V V2 := by
  obtain ⟨h1, -⟩ := m_here H hf c0 hc e4
  obtain ⟨F, G⟩ := k_gl H K hf c0 hc e4 c1 k1 l
  refine ⟨F, fun _ n => ?_⟩
  obtain ⟨q1, L1, d1, a1, a2, a3⟩ := G n
  have d := kc_y (T := mT V) (p := V 72 64) (by rw [h1]; exact ho) d1
  rw [h1] at d
  refine ⟨q1, L1 ++ [(c, 0)], d, a1, ?_, a3⟩
  rw [a2, List.length_append]
  show _ = V 72 68 + ((L1.length + 1 : Nat) : Int)
  omega
theorem ek_259 {n : Nat} {X : aX} (K : mv258 n X) : mv259 (n + 1) X := by
  intro h S hp
  refine y259_0 S K ⟨hp, fun h1 k1 => ?_⟩
  obtain ⟨S1, c1, k1⟩ := k1
  have H := mRes_p hp.1 c1
  have KV := kF_p (Int.le_refl _) hp.2 k1.1
  have go : ∀ (c : Int) (g : aH), 0 ≤ c → opB 12 c = true → vw h1 72 65 < 0 → mL (vw h1) = c → vw g = up (vw h1) 72 64 (w32 (vw h1 72 64 + 1)) → (mpre (vw g) ∧ kpre (vw g)) ∧ ∀ h3 : aH, (wS h3 ∧ mRes 3 (vw g) (vw h3) ∧ kRes 3 (vw g) (vw h3)) → ∀ h2 : aH, (wS h2 ∧ RLay (vw h3) (mL (vw h1)) 0 (vw h2)) → wS h2 ∧ mRes 5 (vw h) (vw h2) ∧ kRes 5 (vw h) (vw h2) := by
    intro c g c0 ho hf hc eg
    obtain ⟨q1, q2, q3, -⟩ := m_here H hf c0 hc eg
    refine ⟨⟨q2, k_up KV q3⟩, fun h3 k3 h2 l => ?_⟩
    obtain ⟨S2, l⟩ := l
    rw [hc] at l
    have m2 := m_cho gch12 H hf c0 hc ho eg (mRes_y k3.2.1 (lay_l l))
    exact ⟨S2, m_seq gsq5 hp.1 c1 m2, k_seq ksq5 c1 k1 m2 (k_cho H KV hf c0 hc ho eg k3.2.1 k3.2.2 l)⟩
  have stay : (vw h1 72 65 < 0 → opB 12 (mT (vw h1) (vw h1 72 64)) = false) → wS h1 ∧ mRes 5 (vw h) (vw h1) ∧ kRes 5 (vw h) (vw h1) := fun no => by
    have m2 := m_out (t := 12) (fun _ _ _ => ch_e gch12) H no
    exact ⟨S1, m_seq gsq5 hp.1 c1 m2, k_seq ksq5 c1 k1 m2 (k_out12 no)⟩
  exact ⟨fun w => stay (fun z => by omega), fun hf => ⟨fun e g S2 eg => go 60 g (by decide) rfl hf e eg, fun n0 => ⟨fun e g S2 eg => go 61 g (by decide) rfl hf e eg, fun n1 => ⟨fun e g S2 eg => go 62 g (by decide) rfl hf e eg, fun n2 => stay (fun _ => by rw [← mL_T H.2.2.1.1]; show ((_ == 60 || _ == 61) || _ == 62) = false; rw [beq_false_of_ne n0, beq_false_of_ne n1, beq_false_of_ne n2]; rfl)⟩⟩⟩⟩


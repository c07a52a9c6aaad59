-- ===== a post that says one number =====

theorem rpost_c {σ : List Nat} {h : aH} {v : Option Value} {z : Int} {Ps : List cT} (hP : ∃ P, P ∈ Ps ∧ dPost P σ h v) (e : Ps = [([], [(1, 0, z)], ([(0, 0)], [], [], [], [], [], []))]) : ∃ x : Int32, v = some (.int x) ∧ x.toInt = z := by
  subst e
  obtain ⟨P, hm, ρ, rh, k, s⟩ := hP
  cases List.mem_singleton.mp hm
  cases v with
  | none => exact s.elim
  | some v =>
    obtain ⟨⟨x, y, rfl, e1, e2⟩, -⟩ := s
    have e3 := k.1.2.1
    dsimp only at e1 e2 e3
    cases e1.symm.trans e3
    exact ⟨x, rfl, by omega⟩

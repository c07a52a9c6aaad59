-- ===== the least land =====
theorem jx_31 {h h1 h2 : aH} {y r1 r2 : Int} (I0 : IV h) (A : AP (vw h)) (F : JCf (vw h)) (h3 : ∀ j, 0 ≤ j → j < 150 → -2147483648 ≤ vw h 3 j ∧ vw h 3 j ≤ 2147483647) (hd : vw h 1 0 = vw h 72 1) (J : JGiv (vw h)) (c : R175 h y r1 h1 ∧ IV h1) (m : ((0 ≤ vw h1 72 2 ∧ vw h1 72 2 ≤ 150) ∧ (∀ c, 0 ≤ c → c < 300 → 0 ≤ vw h1 88 c ∧ vw h1 88 c < 150) → R88 (vw h1) y r2 (vw h2)) ∧ IV h2) : (JSea (vw h2) ∧ JRk (vw h2) ∧ JGiv (vw h2)) ∧ r1 = r2 := by
  have fr : ∀ (c : Nat) j, c < 146 → c ≠ 42 → c ≠ 48 → c ≠ 49 → c ≠ 50 → c ≠ 51 → vw h1 c j = vw h c j := by
    rcases c.1 with ⟨-, -, rfl⟩ | ⟨-, q, g, R, K⟩
    · exact fun _ _ _ _ _ _ _ _ => rfl
    · exact fun c j u v a b d e => (R53_f K c j a b d e).trans (R1_f R c j u v)
  have B := A.1.2.1
  have C := A.1.1
  have b1 := B.2.2.2.2.2.1
  have b2 := B.2.2.2.2.2.2.1
  have n2 : vw h1 72 2 = vw h 1 1 := by rw [fr 72 2 (by decide) (by decide) (by decide) (by decide) (by decide) (by decide)]; exact B.1.symm
  have n88 : ∀ c, 0 ≤ c → c < 300 → 0 ≤ vw h1 88 c ∧ vw h1 88 c < 150 := fun c _ _ => by
    rw [fr 88 c (by decide) (by decide) (by decide) (by decide) (by decide) (by decide), ← C.2.2.1]
    exact F.1 c
  have M := m.1 ⟨by rw [n2]; exact ⟨b1, b2⟩, n88⟩
  have go : JGiv (vw h2) ∧ r1 = r2 := by
    rcases c.1 with ⟨n, rfl, rfl⟩ | ⟨o, q, g, R, K⟩
    · rcases M with ⟨-, rfl, e⟩ | ⟨o', -⟩
      · rw [e]
        exact ⟨J, rfl⟩
      · exact absurd o' n
    · rcases M with ⟨n, -⟩ | ⟨-, G, RR, RM⟩
      · exact absurd o n
      · have fg := R1_f R
        have Ag := AP_f A fg
        have Fg := JCf_f F fg
        have Sc := R1_sc I0 R
        have Bg := Ag.1.2.1
        have Cg := Ag.1.1
        have x : ∀ (c : Nat) j, 72 ≤ c → c ≤ 110 → vw h1 c j = vw g c j := fun c j u v => R53_f K c j (by omega) (by omega) (by omega) (by omega)
        have k1 : vw h1 72 1 = vw h 1 0 := by rw [fr 72 1 (by decide) (by decide) (by decide) (by decide) (by decide) (by decide)]; exact hd.symm
        rw [k1] at RR
        have RD := rkd_m x RR
        have AR := RR.1.1
        have Gx : ∀ (c : Nat) j, 72 ≤ c → c < 103 → c ≠ 72 → G c j = vw g c j := fun c j u v z => (agR_x AR c j v z).trans (x c j u (by omega))
        have Gy : ∀ j, j ≠ 38 → j ≠ 39 → G 72 j = vw g 72 j := fun j u v => (agR_y AR u v).trans (x 72 j (by decide) (by decide))
        have e8 : ∀ c, G 88 c = vw g 88 c := fun c => Gx 88 c (by decide) (by decide) (by decide)
        have e80 : ∀ c, G 80 c = vw g 80 c := fun c => Gx 80 c (by decide) (by decide) (by decide)
        have em : ∀ b, mField G b ↔ mField (vw g) b := fun b => by
          unfold mField mBody
          rw [Gy 2 (by decide) (by decide), Gx 73 b (by decide) (by decide) (by decide)]
        have tt : ∀ b, TR (vw g) q b ↔ TM G y b := TR_e Ag Sc Fg RD e8 e80 em
        have en : (G 72 2).toNat = (vw g 1 1).toNat := by rw [Gy 2 (by decide) (by decide), ← Bg.1]
        have cn : ∀ k : Nat, nQ (TR (vw g) q) k = nQ (TM G y) k := fun k => nQ_c k (fun j _ _ => tt j)
        have m0 := nQ_b (TR (vw g) q) (vw g 1 1).toNat
        have kg : ∀ (c : Nat) j, c = 48 ∨ c = 49 ∨ c = 133 ∨ (c = 72 ∧ j = 81) → vw g c j = vw h c j := fun c j z => fg c j (by omega) (by omega)
        rcases K with ⟨over, rfl, kf⟩ | ⟨fit, U, uf, u50, u51, KR⟩
        · rcases RM with ⟨-, rfl, e⟩ | ⟨fit, -⟩
          · refine ⟨?_, rfl⟩
            have s4 : vw h2 48 4 = vw h 48 4 := by rw [e, agR_x AR 48 4 (by decide) (by decide), kf 48 4 (by decide), kg 48 4 (Or.inl rfl)]
            have s81 : vw h2 72 81 = vw h 72 81 := by rw [e, Gy 81 (by decide) (by decide), kg 72 81 (Or.inr (Or.inr (Or.inr ⟨rfl, rfl⟩)))]
            have s49 : ∀ j, vw h2 49 j = vw h 49 j := fun j => by rw [e, agR_x AR 49 j (by decide) (by decide), kf 49 j (by decide), kg 49 j (Or.inr (Or.inl rfl))]
            have s133 : ∀ j, vw h2 133 j = vw h 133 j := fun j => by rw [e, AR 133 j (Or.inr (by decide)) (Or.inl (by decide)), kf 133 j (by decide), kg 133 j (Or.inr (Or.inr (Or.inl rfl)))]
            unfold JGiv at J ⊢
            simp only [s4, s81, s49, s133]
            exact J
          · rw [en, ← cn] at fit
            omega
        · rcases RM with ⟨over, -⟩ | ⟨-, X, xf, x79, x132, MR⟩
          · rw [en, ← cn] at over
            omega
          · rw [en, ← cn] at x79 MR
            obtain ⟨m, hm⟩ : ∃ m, m = nQ (TR (vw g) q) (vw g 1 1).toNat := ⟨_, rfl⟩
            rw [← hm] at fit m0 u51 KR x79 MR
            have mm : 0 ≤ m ∧ m ≤ 10 := ⟨m0.1, fit⟩
            have p2 := p2_b mm
            have gN : G 72 2 = vw g 1 1 := by rw [Gy 2 (by decide) (by decide), ← Bg.1]
            have ent : ∀ i, 0 ≤ i → i < m → ∃ b : Nat, (b : Int) < vw g 1 1 ∧ TR (vw g) q (b : Nat) ∧ U 50 i = (b : Nat) ∧ X 132 i = (b : Nat) := fun i i0 i1 => by
              obtain ⟨b, q1, q2, q3⟩ := nQ_inv (R := TR (vw g) q) i0 (vw g 1 1).toNat (by rw [← hm]; exact i1)
              have w1 := u50 b (by omega) q2
              have w2 := x132 b (by rw [gN]; omega) ((tt _).mp q2)
              rw [q3] at w1
              rw [← cn, q3] at w2
              exact ⟨b, by omega, q2, w1, w2⟩
            have xe : ∀ i, 0 ≤ i → i < m → X 132 i = U 50 i := fun i i0 i1 => by
              obtain ⟨b, -, -, w1, w2⟩ := ent i i0 i1
              rw [w1, w2]
            have ec : ∀ s : Nat, s < 2 ^ m.toNat → (endA U (s : Nat) m ↔ cur X (s : Nat) y) := fun s hs => set_e Ag Sc Fg RD e8 e80 em hm mm.2 u50 u51 xf.1 (xf.2 19 (by decide)) x79 xe hs
            have ea : ∀ s : Nat, s < 2 ^ m.toNat → arN U (s : Nat) m.toNat = maN X (s : Nat) m.toNat := fun s hs => by
              refine ar_m mm (fun i i0 i1 => ?_) (by omega) m.toNat (by omega)
              obtain ⟨b, b1, b2, w1, w2⟩ := ent i i0 i1
              have bM := (Bg.2.2.2.2.2.2.2.2 (b : Nat) (by omega) b1).2.1 b2.1.2.1 b2.1.2.2
              have hb := h3 (b : Nat) (by omega) (by have := Bg.2.2.2.2.2.2.1; omega)
              have v3 : vw g 3 (b : Nat) = vw h 3 (b : Nat) := fg 3 _ (by decide) (by decide)
              have v78 : X 78 (b : Nat) = vw g 78 (b : Nat) := (xf.1 78 _ (by decide) (by decide)).trans (Gx 78 _ (by decide) (by decide) (by decide))
              have u3 : U 3 (b : Nat) = vw g 3 (b : Nat) := uf 3 _ (by decide) (by decide)
              rw [w1, w2, v78, u3, ← bM, v3]
              exact ⟨rfl, hb⟩
            obtain ⟨⟨c0, c1⟩, ce, cv⟩ := best_e mm ea ec
            obtain ⟨s, es⟩ : ∃ s : Nat, chF U m (2 ^ m.toNat) = (s : Int) := ⟨(chF U m (2 ^ m.toNat)).toNat, by omega⟩
            rw [← ce, ← cv, es] at MR
            rw [es] at KR c1
            have hs : s < 1024 := by omega
            have f : ∀ (c : Nat) j, c = 48 ∨ c = 49 → vw h2 c j = vw h1 c j := fun c j z => ((MR.2.1.1 c j (by omega) (by omega)).trans (xf.1 c j (by omega) (by omega))).trans (agR_x AR c j (by omega) (by omega))
            refine ⟨giv_e mm hs xe KR MR (f 48 4 (Or.inl rfl)) (fun j => f 49 j (Or.inr rfl)), ?_⟩
            rw [KR.1, MR.1]
  exact ⟨⟨JSea_IV m.2, rOK_IV m.2, go.1⟩, go.2⟩


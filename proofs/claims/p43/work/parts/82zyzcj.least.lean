-- ===== 82zyzcj.least: 4 texts =====
section
def JGiv (V : vS) : Prop := ((V 48 4 = V 72 81 ∧ 0 ≤ V 48 4 ∧ V 48 4 ≤ 10) ∨ (V 48 4 = 0 ∧ V 72 81 = -1)) ∧ ∀ i, 0 ≤ i → i < V 48 4 → V 49 i = V 133 i
def LGiv : List (Nat × Option Nat) := [(48, some 4), (72, some 81), (49, none), (133, none)]
theorem JGiv_ag {V W : vS} (J : JGiv V) (A : ag LGiv V W) : JGiv W := by
  obtain ⟨a1, a2, a3, a4, -⟩ := A
  have a1 : W 48 4 = V 48 4 := a1
  have a2 : W 72 81 = V 72 81 := a2
  unfold JGiv at J ⊢
  simp only [a1, a2, a3, a4]
  exact J
theorem JGiv_dG {W : List (Nat × Nat)} {σ σ1 : List Nat} {h h1 : aH} (J : JGiv (vw h)) (I : dI σ h) (G : dG W σ h σ1 h1) (k : frL W LGiv = true) : JGiv (vw h1) := JGiv_ag J (ag_dG I.1 G _ k)
theorem zJGiv0 : JGiv (vw zH0) := by
  have e1 : vw zH0 48 4 = 0 := vzf (i := 4) (x := 0) zh48 rfl
  have e2 : vw zH0 72 81 = -1 := vzf (i := 81) (x := -1) zh72 rfl
  unfold JGiv
  rw [e1, e2]
  exact ⟨Or.inr ⟨rfl, rfl⟩, fun i a b => by omega⟩
theorem R60_f {V W : vS} {s m r : Int} (R : R60 V s m r W) : ∀ (c : Nat) j, c ≠ 49 → (c ≠ 48 ∨ j ≠ 4) → W c j = V c j := fun c j a b => by
  by_cases z : c = 48
  · rw [z]
    rw [z] at b
    exact R.2.1.2 j (by omega)
  · exact R.2.1.1 c j z a
theorem R53_f {V W : vS} {q : Nat} {r : Int} (R : R53 V q r W) : ∀ (c : Nat) j, c ≠ 48 → c ≠ 49 → c ≠ 50 → c ≠ 51 → W c j = V c j := fun c j a b d e => by
  rcases R with ⟨-, -, f⟩ | ⟨-, U, f, -, -, R⟩
  · exact f c j d
  · exact (R60_f R c j b (Or.inl a)).trans (f c j d e)
theorem ar_m {U X : vS} {m : Int} (hm : 0 ≤ m ∧ m ≤ 10) (e : ∀ i, 0 ≤ i → i < m → U 3 (U 50 i) = X 78 (X 132 i) ∧ -2147483648 ≤ X 78 (X 132 i) ∧ X 78 (X 132 i) ≤ 2147483647) {s : Nat} (hs : s < 1024) : ∀ k : Nat, (k : Int) ≤ m → arN U (s : Nat) k = maN X (s : Nat) k
  | 0, _ => rfl
  | k + 1, hk => by
    have ih := ar_m hm e hs k (by omega)
    have a : arN U (s : Nat) (k + 1) = w32 (arN U (s : Nat) k + w32 (bAnd (bShr (s : Nat) (k : Nat)) 1 * U 3 (U 50 (k : Nat)))) := rfl
    obtain ⟨e1, e2, e3⟩ := e (k : Nat) (by omega) (by omega)
    rw [a, maN_s, ih, e1, b01k2 hs (by omega)]
    cases tb (s : Int) k with
    | true =>
      have w : w32 (1 * X 78 (X 132 (k : Nat))) = X 78 (X 132 (k : Nat)) := by rw [Int.one_mul]; exact w32_id e2 e3
      show w32 (maN X (s : Nat) k + w32 (1 * X 78 (X 132 (k : Nat)))) = w32 (maN X (s : Nat) k + X 78 (X 132 (k : Nat)))
      rw [w]
    | false =>
      have w : w32 (0 * X 78 (X 132 (k : Nat))) = 0 := by rw [Int.zero_mul]; exact w32_id (by decide) (by decide)
      show w32 (maN X (s : Nat) k + w32 (0 * X 78 (X 132 (k : Nat)))) = w32 (maN X (s : Nat) k + 0)
      rw [w]
theorem JCf_f {V W : vS} (F : JCf V) (e : ∀ (c : Nat) j, c < 146 → c ≠ 42 → W c j = V c j) : JCf W := by
  have f : ∀ b, cFarm W b ↔ cFarm V b := fun b => by
    unfold cFarm cBody
    rw [e 1 1 (by decide) (by decide), e 2 b (by decide) (by decide)]
  have g : ∀ b, cField W b ↔ cField V b := fun b => by
    unfold cField cBody
    rw [e 1 1 (by decide) (by decide), e 2 b (by decide) (by decide)]
  refine ⟨fun c => by rw [e 18 c (by decide) (by decide)]; exact F.1 c, fun c c0 c1 => ?_⟩
  rw [e 16 1 (by decide) (by decide)] at c1
  rw [e 17 c (by decide) (by decide), e 18 c (by decide) (by decide), f, g]
  exact F.2 c c0 c1
theorem sB_N {s : Nat} (hs : s < 1024) {i : Int} (i0 : 0 ≤ i) (i1 : i < 10) : sBt (s : Nat) i ↔ sN0 (s : Nat) i := by
  obtain ⟨n, rfl⟩ : ∃ n : Nat, i = (n : Int) := ⟨i.toNat, by omega⟩
  unfold sBt sN0
  rw [b01k2 hs (by omega)]
  cases tb (s : Int) n with
  | true => exact ⟨fun _ => by decide, fun _ => rfl⟩
  | false => exact ⟨fun z => absurd z (by decide), fun z => absurd rfl z⟩
-- what was given: both sides' lists are one
theorem giv_e {U X W1 W2 : vS} {m l r1 r2 : Int} {s : Nat} (hm : 0 ≤ m ∧ m ≤ 10) (hs : s < 1024) (x : ∀ i, 0 ≤ i → i < m → X 132 i = U 50 i) (R : R60 U (s : Nat) m r1 W1) (M : R8e X (s : Nat) l m r2 W2) (f4 : W2 48 4 = W1 48 4) (f9 : ∀ j, W2 49 j = W1 49 j) : JGiv W2 := by
  obtain ⟨-, -, a4, a9⟩ := R
  obtain ⟨-, -, b4, b9⟩ := M
  have e : ∀ k : Nat, (k : Int) ≤ m → nQ (sBt (s : Nat)) k = nQ (sN0 (s : Nat)) k := fun k hk => nQ_c k (fun j j0 j1 => sB_N hs j0 (by omega))
  have b := nQ_b (sBt (s : Nat)) m.toNat
  refine ⟨Or.inl ⟨?_, ?_, ?_⟩, fun i i0 i1 => ?_⟩
  · rw [f4, a4, b4]
    exact e m.toNat (by omega)
  · rw [f4, a4]
    exact b.1
  · rw [f4, a4]
    omega
  · rw [f4, a4] at i1
    obtain ⟨k, k1, k2, k3⟩ := nQ_inv (R := sBt (s : Nat)) i0 m.toNat i1
    have h1 := a9 k (by omega) k2
    have h2 := b9 k (by omega) ((sB_N hs (by omega) (by omega)).mp k2)
    rw [← e k (by omega), k3] at h2
    rw [k3] at h1
    rw [f9, h1, h2, x (k : Nat) (by omega) (by omega)]
end
section
-- ===== the least land =====
theorem jx_31 {h h1 h2 : aH} {y r1 r2 : Int} (I0 : IV h) (A : AP (vw h)) (F : JCf (vw h)) (h3 : ∀ j, 0 ≤ j → j < 150 → -2147483648 ≤ vw h 3 j ∧ vw h 3 j ≤ 2147483647) (hd : vw h 1 0 = vw h 72 1) (J : JGiv (vw h)) (c : R175 h y r1 h1 ∧ IV h1) (m : ((0 ≤ vw h1 72 2 ∧ vw h1 72 2 ≤ 150) ∧ (∀ c, 0 ≤ c → c < 300 → 0 ≤ vw h1 88 c ∧ vw h1 88 c < 150) → R88 (vw h1) y r2 (vw h2)) ∧ IV h2) : (JSea (vw h2) ∧ JRk (vw h2) ∧ JGiv (vw h2)) ∧ r1 = r2 := by
  have fr : ∀ (c : Nat) j, c < 146 → c ≠ 42 → c ≠ 48 → c ≠ 49 → c ≠ 50 → c ≠ 51 → vw h1 c j = vw h c j := by
    rcases c.1 with ⟨-, -, rfl⟩ | ⟨-, q, g, R, K⟩
    · exact fun _ _ _ _ _ _ _ _ => rfl
    · exact fun c j u v a b d e => (R53_f K c j a b d e).trans (R1_f R c j u v)
  have B := A.1.2.1
  have C := A.1.1
  have b1 := B.2.2.2.2.2.1
  have b2 := B.2.2.2.2.2.2.1
  have n2 : vw h1 72 2 = vw h 1 1 := by rw [fr 72 2 (by decide) (by decide) (by decide) (by decide) (by decide) (by decide)]; exact B.1.symm
  have n88 : ∀ c, 0 ≤ c → c < 300 → 0 ≤ vw h1 88 c ∧ vw h1 88 c < 150 := fun c _ _ => by
    rw [fr 88 c (by decide) (by decide) (by decide) (by decide) (by decide) (by decide), ← C.2.2.1]
    exact F.1 c
  have M := m.1 ⟨by rw [n2]; exact ⟨b1, b2⟩, n88⟩
  have go : JGiv (vw h2) ∧ r1 = r2 := by
    rcases c.1 with ⟨n, rfl, rfl⟩ | ⟨o, q, g, R, K⟩
    · rcases M with ⟨-, rfl, e⟩ | ⟨o', -⟩
      · rw [e]
        exact ⟨J, rfl⟩
      · exact absurd o' n
    · rcases M with ⟨n, -⟩ | ⟨-, G, RR, RM⟩
      · exact absurd o n
      · have fg := R1_f R
        have Ag := AP_f A fg
        have Fg := JCf_f F fg
        have Sc := R1_sc I0 R
        have Bg := Ag.1.2.1
        have Cg := Ag.1.1
        have x : ∀ (c : Nat) j, 72 ≤ c → c ≤ 110 → vw h1 c j = vw g c j := fun c j u v => R53_f K c j (by omega) (by omega) (by omega) (by omega)
        have k1 : vw h1 72 1 = vw h 1 0 := by rw [fr 72 1 (by decide) (by decide) (by decide) (by decide) (by decide) (by decide)]; exact hd.symm
        rw [k1] at RR
        have RD := rkd_m x RR
        have AR := RR.1.1
        have Gx : ∀ (c : Nat) j, 72 ≤ c → c < 103 → c ≠ 72 → G c j = vw g c j := fun c j u v z => (agR_x AR c j v z).trans (x c j u (by omega))
        have Gy : ∀ j, j ≠ 38 → j ≠ 39 → G 72 j = vw g 72 j := fun j u v => (agR_y AR u v).trans (x 72 j (by decide) (by decide))
        have e8 : ∀ c, G 88 c = vw g 88 c := fun c => Gx 88 c (by decide) (by decide) (by decide)
        have e80 : ∀ c, G 80 c = vw g 80 c := fun c => Gx 80 c (by decide) (by decide) (by decide)
        have em : ∀ b, mField G b ↔ mField (vw g) b := fun b => by
          unfold mField mBody
          rw [Gy 2 (by decide) (by decide), Gx 73 b (by decide) (by decide) (by decide)]
        have tt : ∀ b, TR (vw g) q b ↔ TM G y b := TR_e Ag Sc Fg RD e8 e80 em
        have en : (G 72 2).toNat = (vw g 1 1).toNat := by rw [Gy 2 (by decide) (by decide), ← Bg.1]
        have cn : ∀ k : Nat, nQ (TR (vw g) q) k = nQ (TM G y) k := fun k => nQ_c k (fun j _ _ => tt j)
        have m0 := nQ_b (TR (vw g) q) (vw g 1 1).toNat
        have kg : ∀ (c : Nat) j, c = 48 ∨ c = 49 ∨ c = 133 ∨ (c = 72 ∧ j = 81) → vw g c j = vw h c j := fun c j z => fg c j (by omega) (by omega)
        rcases K with ⟨over, rfl, kf⟩ | ⟨fit, U, uf, u50, u51, KR⟩
        · rcases RM with ⟨-, rfl, e⟩ | ⟨fit, -⟩
          · refine ⟨?_, rfl⟩
            have s4 : vw h2 48 4 = vw h 48 4 := by rw [e, agR_x AR 48 4 (by decide) (by decide), kf 48 4 (by decide), kg 48 4 (Or.inl rfl)]
            have s81 : vw h2 72 81 = vw h 72 81 := by rw [e, Gy 81 (by decide) (by decide), kg 72 81 (Or.inr (Or.inr (Or.inr ⟨rfl, rfl⟩)))]
            have s49 : ∀ j, vw h2 49 j = vw h 49 j := fun j => by rw [e, agR_x AR 49 j (by decide) (by decide), kf 49 j (by decide), kg 49 j (Or.inr (Or.inl rfl))]
            have s133 : ∀ j, vw h2 133 j = vw h 133 j := fun j => by rw [e, AR 133 j (Or.inr (by decide)) (Or.inl (by decide)), kf 133 j (by decide), kg 133 j (Or.inr (Or.inr (Or.inl rfl)))]
            unfold JGiv at J ⊢
            simp only [s4, s81, s49, s133]
            exact J
          · rw [en, ← cn] at fit
            omega
        · rcases RM with ⟨over, -⟩ | ⟨-, X, xf, x79, x132, MR⟩
          · rw [en, ← cn] at over
            omega
          · rw [en, ← cn] at x79 MR
            obtain ⟨m, hm⟩ : ∃ m, m = nQ (TR (vw g) q) (vw g 1 1).toNat := ⟨_, rfl⟩
            rw [← hm] at fit m0 u51 KR x79 MR
            have mm : 0 ≤ m ∧ m ≤ 10 := ⟨m0.1, fit⟩
            have p2 := p2_b mm
            have gN : G 72 2 = vw g 1 1 := by rw [Gy 2 (by decide) (by decide), ← Bg.1]
            have ent : ∀ i, 0 ≤ i → i < m → ∃ b : Nat, (b : Int) < vw g 1 1 ∧ TR (vw g) q (b : Nat) ∧ U 50 i = (b : Nat) ∧ X 132 i = (b : Nat) := fun i i0 i1 => by
              obtain ⟨b, q1, q2, q3⟩ := nQ_inv (R := TR (vw g) q) i0 (vw g 1 1).toNat (by rw [← hm]; exact i1)
              have w1 := u50 b (by omega) q2
              have w2 := x132 b (by rw [gN]; omega) ((tt _).mp q2)
              rw [q3] at w1
              rw [← cn, q3] at w2
              exact ⟨b, by omega, q2, w1, w2⟩
            have xe : ∀ i, 0 ≤ i → i < m → X 132 i = U 50 i := fun i i0 i1 => by
              obtain ⟨b, -, -, w1, w2⟩ := ent i i0 i1
              rw [w1, w2]
            have ec : ∀ s : Nat, s < 2 ^ m.toNat → (endA U (s : Nat) m ↔ cur X (s : Nat) y) := fun s hs => set_e Ag Sc Fg RD e8 e80 em hm mm.2 u50 u51 xf.1 (xf.2 19 (by decide)) x79 xe hs
            have ea : ∀ s : Nat, s < 2 ^ m.toNat → arN U (s : Nat) m.toNat = maN X (s : Nat) m.toNat := fun s hs => by
              refine ar_m mm (fun i i0 i1 => ?_) (by omega) m.toNat (by omega)
              obtain ⟨b, b1, b2, w1, w2⟩ := ent i i0 i1
              have bM := (Bg.2.2.2.2.2.2.2.2 (b : Nat) (by omega) b1).2.1 b2.1.2.1 b2.1.2.2
              have hb := h3 (b : Nat) (by omega) (by have := Bg.2.2.2.2.2.2.1; omega)
              have v3 : vw g 3 (b : Nat) = vw h 3 (b : Nat) := fg 3 _ (by decide) (by decide)
              have v78 : X 78 (b : Nat) = vw g 78 (b : Nat) := (xf.1 78 _ (by decide) (by decide)).trans (Gx 78 _ (by decide) (by decide) (by decide))
              have u3 : U 3 (b : Nat) = vw g 3 (b : Nat) := uf 3 _ (by decide) (by decide)
              rw [w1, w2, v78, u3, ← bM, v3]
              exact ⟨rfl, hb⟩
            obtain ⟨⟨c0, c1⟩, ce, cv⟩ := best_e mm ea ec
            obtain ⟨s, es⟩ : ∃ s : Nat, chF U m (2 ^ m.toNat) = (s : Int) := ⟨(chF U m (2 ^ m.toNat)).toNat, by omega⟩
            rw [← ce, ← cv, es] at MR
            rw [es] at KR c1
            have hs : s < 1024 := by omega
            have f : ∀ (c : Nat) j, c = 48 ∨ c = 49 → vw h2 c j = vw h1 c j := fun c j z => ((MR.2.1.1 c j (by omega) (by omega)).trans (xf.1 c j (by omega) (by omega))).trans (agR_x AR c j (by omega) (by omega))
            refine ⟨giv_e mm hs xe KR MR (f 48 4 (Or.inl rfl)) (fun j => f 49 j (Or.inr rfl)), ?_⟩
            rw [KR.1, MR.1]
  exact ⟨⟨JSea_IV m.2, rOK_IV m.2, go.1⟩, go.2⟩
end
section
-- ===== what is known of a farm =====
theorem f332_0 {n : Nat} {X : aX} {h : aH} {P : aH → Prop} {x1 : Int32} {a1 : Int} (S : wS h) (z1 : x1.toInt = a1) (H : (∀ (w2 : Int32) (w3 : Int32), w2.toInt = 0 → w3.toInt = 8 → Pt n X zM332 5 [some (.ref 44), some (.int x1), some (.int w2), some (.int w3)] [] h (qN P))) : Pt (n + 1) X zM332 0 [some (.ref 44), some (.int x1), none, none] [] h (qN P) := by
  refine pt_iconst gx332_0 (fun v1 h1 => ?_)
  refine pt_d (pt_1 (fun n d => r_istoren (L' := [some (.ref 44), some (.int x1), some (.int v1), none]) gx332_1 rfl rfl) ?_)
  refine pt_d (pt_1 (fun n d => r_aloadn gx332_2 rfl) ?_)
  refine pt_d (pt_alen (N' := 8) gx332_3 S tl_44 (fun v2 h2 => ?_))
  refine pt_d (pt_1 (fun n d => r_istoren (L' := [some (.ref 44), some (.int x1), some (.int v1), some (.int v2)]) gx332_4 rfl rfl) ?_)
  exact H v1 v2 h1 h2
theorem f332_5 {n : Nat} {X : aX} {h : aH} {P : aH → Prop} {x1 x2 x3 : Int32} {a1 a2 a3 : Int} (S : wS h) (z1 : x1.toInt = a1) (z2 : x2.toInt = a2) (z3 : x3.toInt = a3) (H : ((a3 ≤ a2 → P h) ∧ (a2 < a3 → (0 ≤ a2 → a2 < 8 → ∀ h_2 : aH, wS h_2 → vw h_2 = up (vw h) 44 a2 a1 → (∀ (w2 : Int32), w2.toInt = w32 (a2 + 1) → Pt n X zM332 5 [some (.ref 44), some (.int x1), some (.int w2), some (.int x3)] [] h_2 (qN P)))))) : Pt (n + 1) X zM332 5 [some (.ref 44), some (.int x1), some (.int x2), some (.int x3)] [] h (qN P) := by
  refine pt_1 (fun n d => r_iloadn gx332_5 rfl) ?_
  refine pt_d (pt_1 (fun n d => r_iloadn gx332_6 rfl) ?_)
  refine pt_d (pt_icmp_ge gx332_7 z2 z3 (fun e1 => ?_) (fun e1 => ?_))
  · have H := H.1 e1
    exact pt_d (pt_vret gx332_20 ⟨rfl, H⟩)
  · have H := H.2 e1
    refine pt_d (pt_1 (fun n d => r_aloadn gx332_10 rfl) ?_)
    refine pt_d (pt_1 (fun n d => r_iloadn gx332_11 rfl) ?_)
    refine pt_d (pt_1 (fun n d => r_iloadn gx332_12 rfl) ?_)
    refine pt_d (pt_iast (N' := 8) gx332_13 S tl_44 z2 z1 (fun h_2 S2 p2 q2 e2 => ?_))
    have H := H p2 q2
    refine pt_d (pt_iinc (c := 1) gx332_14 rfl z2 (fun v3 h3 => ?_))
    show Pt _ _ _ _ [some (.ref 44), some (.int x1), some (.int v3), some (.int x3)] [] _ _
    refine pt_d (pt_1 (fun n d => r_goto gx332_17) ?_)
    have H := H h_2 S2 (by rw [e2])
    exact H v3 h3
def R332 (V : vS) (a : Int) (W : vS) : Prop := (∀ (c : Nat) j, c ≠ 44 → W c j = V c j) ∧ ∀ j, 0 ≤ j → j < 8 → W 44 j = a
theorem l_332f {X : aX} {V : vS} {a : Int} : ∀ (n : Nat) (h : aH) (x1 x2 x3 : Int32) (k : Nat), wS h → x1.toInt = a → x2.toInt = (k : Int) → x3.toInt = 8 → k ≤ 8 → (∀ (c : Nat) j, c ≠ 44 → vw h c j = V c j) → (∀ j, 0 ≤ j → j < (k : Int) → vw h 44 j = a) → Pt n X zM332 5 [some (.ref 44), some (.int x1), some (.int x2), some (.int x3)] [] h (qN (fun h' => wS h' ∧ R332 V a (vw h'))) := by
  intro n
  induction n with
  | zero => intros; exact pt_z
  | succ n ih =>
    intro h x1 x2 x3 k S h1 h2 h3 hk F A
    refine f332_5 S h1 h2 h3 ⟨fun e => ⟨S, F, fun j a b => A j a (by omega)⟩, fun e _ _ g S2 eg w g2 => ?_⟩
    replace g2 := w_1 g2 (by omega) (by omega)
    refine ih g x1 w x3 (k + 1) S2 h1 (by omega) h3 (by omega) (fun c j z => by rw [eg, up_c z]; exact F c j z) (fun j a b => ?_)
    rw [eg, up_p]
    by_cases y : j = (k : Int)
    · rw [if_pos y]
    · rw [if_neg y]
      exact A j a (by omega)
theorem c_332f {n : Nat} {X : aX} {h : aH} {x1 : Int32} {a1 : Int} (S : wS h) (z1 : x1.toInt = a1) : Pt n X zM332 0 [some (.ref 44), some (.int x1), none, none] [] h (qN (fun h' => wS h' ∧ R332 (vw h) a1 (vw h'))) :=
  pt_d (f332_0 S z1 (fun w2 w3 g2 g3 => l_332f n h x1 w2 w3 0 S z1 g2 g3 (Nat.zero_le _) (fun _ _ _ => rfl) (fun j a b => by omega)))

theorem d3_0 {n : Nat} {X : aX} {h : aH} {P : Int → aH → Prop} {x2 : Int32} {a2 : Int} {q1 : Nat} (S : wS h) (z2 : x2.toInt = a2) (H : ∀ (h_4 : aH), (wS h_4 ∧ R332 (vw h) 0 (vw h_4)) → (∀ (w3 : Int32) (w4 : Int32), w3.toInt = 0 → w4.toInt = 0 → Pt n X zM3 13 [some (.ref 41), some (.ref q1), some (.int x2), some (.int w3), some (.int w4)] [] h_4 (qI P))) : Pt (n + 1) X zM3 0 [some (.ref 41), some (.ref q1), some (.int x2), none, none] [] h (qI P) := by
  refine pt_iconst gx3_0 (fun v1 h1 => ?_)
  refine pt_d (pt_1 (fun n d => r_istoren (L' := [some (.ref 41), some (.ref q1), some (.int x2), some (.int v1), none]) gx3_1 rfl rfl) ?_)
  refine pt_d (pt_1 (fun n d => r_aloadn gx3_2 rfl) ?_)
  refine pt_d (pt_getR gx3_3 S tr_41_5 ?_)
  refine pt_d (pt_iconst gx3_6 (fun v3 h3 => ?_))
  refine pt_d (pt_stat (as := [.ref 44, .int v3]) (r := []) gx3_7 rfl (show zmt[332]? = some zM332 from rfl) rfl rfl rfl rfl (c_332f S h3) (kqN (fun h_4 P4 => ?_)))
  have S4 := P4.1
  have H := H h_4 P4
  show Pt _ _ _ 10 _ [] _ _
  refine pt_d (pt_iconst gx3_10 (fun v5 h5 => ?_))
  refine pt_d (pt_1 (fun n d => r_istore (L' := [some (.ref 41), some (.ref q1), some (.int x2), some (.int v1), some (.int v5)]) gx3_11 rfl rfl) ?_)
  exact H v1 v5 h1 h5
theorem d3_13 {n : Nat} {X : aX} {h : aH} {P : Int → aH → Prop} {x2 x3 x4 : Int32} {a2 a3 a4 : Int} {q1 : Nat} (S : wS h) (z2 : x2.toInt = a2) (z3 : x3.toInt = a3) (z4 : x4.toInt = a4) (H : ((vw h q1 5 ≤ a4 → P a3 h) ∧ (a4 < vw h q1 5 → ((vw h q1 1 = ((16 : Nat) : Int) ∧ vw h q1 6 = ((q1 + 1 : Nat) : Int)) ∧ (((vw h) 17 ((vw h) (q1 + 1) a4) ≠ a2 → (∀ (w4 : Int32), w4.toInt = w32 (a4 + 1) → Pt n X zM3 13 [some (.ref 41), some (.ref q1), some (.int x2), some (.int x3), some (.int w4)] [] h (qI P))) ∧ ((vw h) 17 ((vw h) (q1 + 1) a4) = a2 → ((vw h) q1 6 = (((q1 + 1) : Nat) : Int) ∧ (0 ≤ a4 → (0 ≤ vw h (q1 + 1) a4 → vw h (q1 + 1) a4 < 300 → (0 ≤ vw h 19 (vw h (q1 + 1) a4) → vw h 19 (vw h (q1 + 1) a4) < 8 → ((vw h) q1 7 = (((q1 + 2) : Nat) : Int) ∧ (0 ≤ a4 → ∀ h_16 : aH, wS h_16 → vw h_16 = up (vw h) 44 (vw h 19 (vw h (q1 + 1) a4)) (w32 ((vw h 44 (vw h 19 (vw h (q1 + 1) a4))) + (vw h (q1 + 2) a4))) → ((vw h_16 q1 1 = ((16 : Nat) : Int) ∧ vw h_16 q1 6 = ((q1 + 1 : Nat) : Int)) ∧ (0 ≤ (vw h_16) 18 ((vw h_16) (q1 + 1) a4) → (vw h_16) 18 ((vw h_16) (q1 + 1) a4) < 150 → ((vw h_16 2 ((vw h_16) 18 ((vw h_16) (q1 + 1) a4)) ≠ 5 → (∀ (w3 : Int32) (w4 : Int32), w3.toInt = w32 (a3 + 0) → w4.toInt = w32 (a4 + 1) → Pt n X zM3 13 [some (.ref 41), some (.ref q1), some (.int x2), some (.int w3), some (.int w4)] [] h_16 (qI P))) ∧ (vw h_16 2 ((vw h_16) 18 ((vw h_16) (q1 + 1) a4)) = 5 → ((vw h_16) q1 7 = (((q1 + 2) : Nat) : Int) ∧ (0 ≤ a4 → (∀ (w3 : Int32) (w4 : Int32), w3.toInt = w32 (a3 + (vw h_16 (q1 + 2) a4)) → w4.toInt = w32 (a4 + 1) → Pt n X zM3 13 [some (.ref 41), some (.ref q1), some (.int x2), some (.int w3), some (.int w4)] [] h_16 (qI P)))))))))))))))))))) : Pt (n + 1) X zM3 13 [some (.ref 41), some (.ref q1), some (.int x2), some (.int x3), some (.int x4)] [] h (qI P) := by
  refine pt_1 (fun n d => r_iload gx3_13 rfl) ?_
  refine pt_d (pt_1 (fun n d => r_aloadn gx3_15 rfl) ?_)
  refine pt_d (pt_getI (B := 5) gx3_16 S (fun v1 h1 => ?_))
  refine pt_d (pt_icmp_ge gx3_19 z4 h1 (fun e2 => ?_) (fun e2 => ?_))
  · have H := H.1 e2
    refine pt_d (pt_1 (fun n d => r_iloadn gx3_100 rfl) ?_)
    exact pt_d (pt_iret gx3_101 ⟨_, rfl, by rw [z3]; exact H⟩)
  · have H := H.2 e2
    refine pt_d (pt_1 (fun n d => r_aloadn gx3_22 rfl) ?_)
    refine pt_d (pt_1 (fun n d => r_iload gx3_23 rfl) ?_)
    obtain ⟨pr3, H⟩ := H
    refine pt_d (pt_virt (as := [.int x4]) (r := []) gx3_25 rfl (show zmt[100]? = some zM100 from rfl) rfl rfl rfl rfl (c_100 S z4 pr3) (kqP (fun v3 h3 => ?_)))
    show Pt _ _ _ 28 _ [.int v3] _ _
    refine pt_d (pt_1 (fun n d => r_iloadn gx3_28 rfl) ?_)
    refine pt_d (pt_icmp_ne gx3_29 h3 z2 (fun e4 => ?_) (fun e4 => ?_))
    · have H := H.1 e4
      refine pt_d (pt_iinc (c := 1) gx3_94 rfl z4 (fun v5 h5 => ?_))
      show Pt _ _ _ _ [some (.ref 41), some (.ref q1), some (.int x2), some (.int x3), some (.int v5)] [] _ _
      refine pt_d (pt_1 (fun n d => r_goto gx3_97) ?_)
      exact H v5 h5
    · have H := H.2 e4
      refine pt_d (pt_1 (fun n d => r_aloadn gx3_32 rfl) ?_)
      refine pt_d (pt_getR gx3_33 S tr_41_5 ?_)
      refine pt_d (pt_1 (fun n d => r_aloadn gx3_36 rfl) ?_)
      refine pt_d (pt_getR gx3_37 S tr_41_1 ?_)
      refine pt_d (pt_getR gx3_40 S tr_16_6 ?_)
      refine pt_d (pt_1 (fun n d => r_aloadn gx3_43 rfl) ?_)
      obtain ⟨pr9, H⟩ := H
      refine pt_d (pt_getK (B := 6) gx3_44 S (pr9) ?_)
      refine pt_d (pt_1 (fun n d => r_iload gx3_47 rfl) ?_)
      refine pt_d (pt_ialdD gx3_49 z4 (fun v10 p10 h10 => ?_))
      have H := H p10
      refine pt_d (pt_iald (N' := 300) gx3_50 S tl_19 h10 (fun v11 p11 q11 h11 => ?_))
      have H := H p11 q11
      refine pt_d (pt_1 (fun n d => r_dup2 gx3_51 rfl) ?_)
      refine pt_d (pt_iald (N' := 8) gx3_52 S tl_44 h11 (fun v12 p12 q12 h12 => ?_))
      have H := H p12 q12
      refine pt_d (pt_1 (fun n d => r_aloadn gx3_53 rfl) ?_)
      obtain ⟨pr13, H⟩ := H
      refine pt_d (pt_getK (B := 7) gx3_54 S (pr13) ?_)
      refine pt_d (pt_1 (fun n d => r_iload gx3_57 rfl) ?_)
      refine pt_d (pt_ialdD gx3_59 z4 (fun v14 p14 h14 => ?_))
      have H := H p14
      refine pt_d (pt_iadd gx3_60 h12 h14 (fun v15 h15 => ?_))
      refine pt_d (pt_iast (N' := 8) gx3_61 S tl_44 h11 h15 (fun h_16 S16 p16 q16 e16 => ?_))
      refine pt_d (pt_1 (fun n d => r_iloadn gx3_62 rfl) ?_)
      refine pt_d (pt_1 (fun n d => r_aloadn gx3_63 rfl) ?_)
      refine pt_d (pt_getR gx3_64 S16 tr_41_0 ?_)
      refine pt_d (pt_getR gx3_67 S16 tr_1_7 ?_)
      refine pt_d (pt_1 (fun n d => r_aloadn gx3_70 rfl) ?_)
      refine pt_d (pt_1 (fun n d => r_iload gx3_71 rfl) ?_)
      have H := H h_16 S16 (by rw [e16])
      obtain ⟨pr19, H⟩ := H
      refine pt_d (pt_virt (as := [.int x4]) (r := [.ref 2, .int x3]) gx3_73 rfl (show zmt[101]? = some zM101 from rfl) rfl rfl rfl rfl (c_101 S16 z4 pr19) (kqP (fun v19 h19 => ?_)))
      show Pt _ _ _ 76 _ [.int v19, .ref 2, .int x3] _ _
      refine pt_d (pt_iald (N' := 150) gx3_76 S16 tl_2 h19 (fun v20 p20 q20 h20 => ?_))
      have H := H p20 q20
      refine pt_d (pt_iconst gx3_77 (fun v21 h21 => ?_))
      refine pt_d (pt_icmp_ne gx3_78 h20 h21 (fun e22 => ?_) (fun e22 => ?_))
      · have H := H.1 e22
        refine pt_d (pt_iconst gx3_91 (fun v23 h23 => ?_))
        refine pt_d (pt_iadd gx3_92 z3 h23 (fun v24 h24 => ?_))
        refine pt_d (pt_1 (fun n d => r_istoren (L' := [some (.ref 41), some (.ref q1), some (.int x2), some (.int v24), some (.int x4)]) gx3_93 rfl rfl) ?_)
        refine pt_d (pt_iinc (c := 1) gx3_94 rfl z4 (fun v25 h25 => ?_))
        show Pt _ _ _ _ [some (.ref 41), some (.ref q1), some (.int x2), some (.int v24), some (.int v25)] [] _ _
        refine pt_d (pt_1 (fun n d => r_goto gx3_97) ?_)
        exact H v24 v25 h24 h25
      · have H := H.2 e22
        refine pt_d (pt_1 (fun n d => r_aloadn gx3_81 rfl) ?_)
        obtain ⟨pr26, H⟩ := H
        refine pt_d (pt_getK (B := 7) gx3_82 S16 (pr26) ?_)
        refine pt_d (pt_1 (fun n d => r_iload gx3_85 rfl) ?_)
        refine pt_d (pt_ialdD gx3_87 z4 (fun v27 p27 h27 => ?_))
        have H := H p27
        refine pt_d (pt_1 (fun n d => r_goto gx3_88) ?_)
        refine pt_d (pt_iadd gx3_92 z3 h27 (fun v28 h28 => ?_))
        refine pt_d (pt_1 (fun n d => r_istoren (L' := [some (.ref 41), some (.ref q1), some (.int x2), some (.int v28), some (.int x4)]) gx3_93 rfl rfl) ?_)
        refine pt_d (pt_iinc (c := 1) gx3_94 rfl z4 (fun v29 h29 => ?_))
        show Pt _ _ _ _ [some (.ref 41), some (.ref q1), some (.int x2), some (.int v28), some (.int v29)] [] _ _
        refine pt_d (pt_1 (fun n d => r_goto gx3_97) ?_)
        exact H v28 v29 h28 h29
noncomputable def crS (V : vS) (q : Nat) (f j : Int) (n : Nat) : Int := sgm (fun i => pI (V 17 (V (q + 1) i) = f ∧ V 19 (V (q + 1) i) = j) (V (q + 2) i)) n
noncomputable def mdS (V : vS) (q : Nat) (f : Int) (n : Nat) : Int := sgm (fun i => pI (V 17 (V (q + 1) i) = f ∧ V 2 (V 18 (V (q + 1) i)) = 5) (V (q + 2) i)) n
theorem crS_s (V : vS) (q : Nat) (f j : Int) (n : Nat) : crS V q f j (n + 1) = crS V q f j n + pI (V 17 (V (q + 1) (n : Nat)) = f ∧ V 19 (V (q + 1) (n : Nat)) = j) (V (q + 2) (n : Nat)) := rfl
theorem mdS_s (V : vS) (q : Nat) (f : Int) (n : Nat) : mdS V q f (n + 1) = mdS V q f n + pI (V 17 (V (q + 1) (n : Nat)) = f ∧ V 2 (V 18 (V (q + 1) (n : Nat))) = 5) (V (q + 2) (n : Nat)) := rfl
def R3 (V : vS) (q : Nat) (f r : Int) (W : vS) : Prop := (∀ (c : Nat) j, c ≠ 44 → W c j = V c j) ∧ (∀ j, 0 ≤ j → j < 8 → W 44 j = w32 (crS V q f j (V q 5).toNat)) ∧ r = w32 (mdS V q f (V q 5).toNat)
theorem l_3 {X : aX} {V : vS} {q : Nat} {f : Int} (hq : 146 ≤ q) (L : (V q 1 = ((16 : Nat) : Int) ∧ V q 6 = ((q + 1 : Nat) : Int)) ∧ V q 7 = ((q + 2 : Nat) : Int)) (hN : V q 5 ≤ 300) : ∀ (n : Nat) (h : aH) (x2 x3 x4 : Int32) (k : Nat), wS h → x2.toInt = f → x3.toInt = w32 (mdS V q f k) → x4.toInt = (k : Int) → (k = 0 ∨ (k : Int) ≤ V q 5) → (∀ (c : Nat) j, c ≠ 44 → vw h c j = V c j) → (∀ j, 0 ≤ j → j < 8 → vw h 44 j = w32 (crS V q f j k)) → Pt n X zM3 13 [some (.ref 41), some (.ref q), some (.int x2), some (.int x3), some (.int x4)] [] h (qI (fun r h' => wS h' ∧ R3 V q f r (vw h'))) := by
  intro n
  induction n with
  | zero => intros; exact pt_z
  | succ n ih =>
    intro h x2 x3 x4 k S h2 h3 h4 hk F A
    have eq1 : vw h q 1 = ((16 : Nat) : Int) := by rw [F q 1 (by omega)]; exact L.1.1
    have eq6 : vw h q 6 = ((q + 1 : Nat) : Int) := by rw [F q 6 (by omega)]; exact L.1.2
    have eq7 : vw h q 7 = ((q + 2 : Nat) : Int) := by rw [F q 7 (by omega)]; exact L.2
    have eq5 := F q 5 (by omega)
    have e17 : vw h 17 (vw h (q + 1) (k : Nat)) = V 17 (V (q + 1) (k : Nat)) := by rw [F 17 _ (by decide), F (q + 1) _ (by omega)]
    have e19 : vw h 19 (vw h (q + 1) (k : Nat)) = V 19 (V (q + 1) (k : Nat)) := by rw [F 19 _ (by decide), F (q + 1) _ (by omega)]
    have e2 : vw h (q + 2) (k : Nat) = V (q + 2) (k : Nat) := F (q + 2) _ (by omega)
    have keep : ∀ g : aH, V 17 (V (q + 1) (k : Nat)) = f → (0 ≤ V 19 (V (q + 1) (k : Nat)) ∧ V 19 (V (q + 1) (k : Nat)) < 8) → vw g = up (vw h) 44 (vw h 19 (vw h (q + 1) (k : Nat))) (w32 (vw h 44 (vw h 19 (vw h (q + 1) (k : Nat))) + vw h (q + 2) (k : Nat))) → (∀ (c : Nat) j, c ≠ 44 → vw g c j = V c j) ∧ ∀ j, 0 ≤ j → j < 8 → vw g 44 j = w32 (crS V q f j (k + 1)) := fun g z cr eg => by
      refine ⟨fun c j a => by rw [eg, up_c a]; exact F c j a, fun j a b => ?_⟩
      rw [eg, up_p, e19, crS_s]
      by_cases y : j = V 19 (V (q + 1) (k : Nat))
      · rw [if_pos y, pI_t (show V 17 (V (q + 1) (k : Nat)) = f ∧ V 19 (V (q + 1) (k : Nat)) = j from ⟨z, y.symm⟩), A _ cr.1 cr.2, e2, w32_add, y]
      · rw [if_neg y, pI_f (show ¬ (V 17 (V (q + 1) (k : Nat)) = f ∧ V 19 (V (q + 1) (k : Nat)) = j) from fun w => y w.2.symm), Int.add_zero]
        exact A j a b
    refine d3_13 S h2 h3 h4 ⟨fun e => ⟨S, F, fun j a b => ?_, ?_⟩, fun e => ⟨⟨eq1, eq6⟩, fun z w4 g4 => ?_, fun z => ⟨eq6, fun _ _ _ c0 c1 => ⟨eq7, fun _ g S2 eg => ⟨⟨by rw [eg, up_c (by omega)]; exact eq1, by rw [eg, up_c (by omega)]; exact eq6⟩, fun _ _ => ⟨fun z2 w3 w4 g3 g4 => ?_, fun z2 => ⟨by rw [eg, up_c (by omega)]; exact eq7, fun _ w3 w4 g3 g4 => ?_⟩⟩⟩⟩⟩⟩⟩
    · rw [show (V q 5).toNat = k by omega]
      exact A j a b
    · rw [show (V q 5).toNat = k by omega]
    · replace g4 := w_1 g4 (by omega) (by omega)
      have nz : ∀ p : Prop, ¬ (V 17 (V (q + 1) (k : Nat)) = f ∧ p) := fun p w => z (by rw [e17]; exact w.1)
      refine ih h x2 x3 w4 (k + 1) S h2 ?_ (by omega) (Or.inr (by omega)) F (fun j a b => ?_)
      · rw [mdS_s, pI_f (nz _), Int.add_zero]
        exact h3
      · rw [crS_s, pI_f (nz _), Int.add_zero]
        exact A j a b
    · rw [e17] at z
      rw [e19] at c0 c1
      obtain ⟨F2, A2⟩ := keep g z ⟨c0, c1⟩ eg
      replace g4 := w_1 g4 (by omega) (by omega)
      have e18 : vw g 2 (vw g 18 (vw g (q + 1) (k : Nat))) = V 2 (V 18 (V (q + 1) (k : Nat))) := by rw [F2 2 _ (by decide), F2 18 _ (by decide), F2 (q + 1) _ (by omega)]
      rw [e18] at z2
      refine ih g x2 w3 w4 (k + 1) S2 h2 ?_ (by omega) (Or.inr (by omega)) F2 A2
      rw [g3, w32_add, mdS_s, pI_f (show ¬ (V 17 (V (q + 1) (k : Nat)) = f ∧ V 2 (V 18 (V (q + 1) (k : Nat))) = 5) from fun w => z2 w.2)]
    · rw [e17] at z
      rw [e19] at c0 c1
      obtain ⟨F2, A2⟩ := keep g z ⟨c0, c1⟩ eg
      replace g4 := w_1 g4 (by omega) (by omega)
      have e18 : vw g 2 (vw g 18 (vw g (q + 1) (k : Nat))) = V 2 (V 18 (V (q + 1) (k : Nat))) := by rw [F2 2 _ (by decide), F2 18 _ (by decide), F2 (q + 1) _ (by omega)]
      rw [e18] at z2
      refine ih g x2 w3 w4 (k + 1) S2 h2 ?_ (by omega) (Or.inr (by omega)) F2 A2
      rw [g3, w32_add, mdS_s, pI_t (show V 17 (V (q + 1) (k : Nat)) = f ∧ V 2 (V 18 (V (q + 1) (k : Nat))) = 5 from ⟨z, z2⟩), F2 (q + 2) _ (by omega)]
theorem c_3 {n : Nat} {X : aX} {h : aH} {x2 : Int32} {a2 : Int} {q1 : Nat} (S : wS h) (z2 : x2.toInt = a2) (hp : 146 ≤ q1 ∧ ((vw h q1 1 = ((16 : Nat) : Int) ∧ vw h q1 6 = ((q1 + 1 : Nat) : Int)) ∧ vw h q1 7 = ((q1 + 2 : Nat) : Int)) ∧ vw h q1 5 ≤ 300) : Pt n X zM3 0 [some (.ref 41), some (.ref q1), some (.int x2), none, none] [] h (qI (fun r h' => wS h' ∧ R3 (vw h) q1 a2 r (vw h'))) := by
  obtain ⟨hq, L, hN⟩ := hp
  refine pt_d (d3_0 S z2 (fun g R w3 w4 g3 g4 => ?_))
  obtain ⟨S2, F, Z⟩ := R
  refine l_3 (V := vw h) hq L hN n g x2 w3 w4 0 S2 z2 ?_ g4 (Or.inl rfl) F (fun j a b => ?_)
  · rw [g3]
    exact (w32_id (z := 0) (by decide) (by decide)).symm
  · rw [Z j a b]
    exact (w32_id (z := 0) (by decide) (by decide)).symm
end
section
-- ===== what is known of a farm =====
theorem d4_0 {n : Nat} {X : aX} {h : aH} {P : Int → aH → Prop} (S : wS h) (H : (∀ (w1 : Int32) (w2 : Int32), w1.toInt = 0 → w2.toInt = 0 → Pt n X zM4 4 [some (.ref 41), some (.int w1), some (.int w2)] [] h (qI P))) : Pt (n + 1) X zM4 0 [some (.ref 41), none, none] [] h (qI P) := by
  refine pt_iconst gx4_0 (fun v1 h1 => ?_)
  refine pt_d (pt_1 (fun n d => r_istoren (L' := [some (.ref 41), some (.int v1), none]) gx4_1 rfl rfl) ?_)
  refine pt_d (pt_iconst gx4_2 (fun v2 h2 => ?_))
  refine pt_d (pt_1 (fun n d => r_istoren (L' := [some (.ref 41), some (.int v1), some (.int v2)]) gx4_3 rfl rfl) ?_)
  exact H v1 v2 h1 h2
theorem d4_4 {n : Nat} {X : aX} {h : aH} {P : Int → aH → Prop} {x1 x2 : Int32} {a1 a2 : Int} (S : wS h) (z1 : x1.toInt = a1) (z2 : x2.toInt = a2) (H : ((8 ≤ a2 → P a1 h) ∧ (a2 < 8 → (0 ≤ a2 → a2 < 8 → ((vw h 44 a2 ≤ 0 → (∀ (w1 : Int32) (w2 : Int32), w1.toInt = w32 (a1 + 0) → w2.toInt = w32 (a2 + 1) → Pt n X zM4 4 [some (.ref 41), some (.int w1), some (.int w2)] [] h (qI P))) ∧ (0 < vw h 44 a2 → (∀ (w1 : Int32) (w2 : Int32), w1.toInt = w32 (a1 + 1) → w2.toInt = w32 (a2 + 1) → Pt n X zM4 4 [some (.ref 41), some (.int w1), some (.int w2)] [] h (qI P)))))))) : Pt (n + 1) X zM4 4 [some (.ref 41), some (.int x1), some (.int x2)] [] h (qI P) := by
  refine pt_1 (fun n d => r_iloadn gx4_4 rfl) ?_
  refine pt_d (pt_bipush gx4_5 (fun v1 h1 => ?_))
  refine pt_d (pt_icmp_ge gx4_7 z2 h1 (fun e2 => ?_) (fun e2 => ?_))
  · have H := H.1 e2
    refine pt_d (pt_1 (fun n d => r_iloadn gx4_33 rfl) ?_)
    exact pt_d (pt_iret gx4_34 ⟨_, rfl, by rw [z1]; exact H⟩)
  · have H := H.2 e2
    refine pt_d (pt_1 (fun n d => r_iloadn gx4_10 rfl) ?_)
    refine pt_d (pt_1 (fun n d => r_aloadn gx4_11 rfl) ?_)
    refine pt_d (pt_getR gx4_12 S tr_41_5 ?_)
    refine pt_d (pt_1 (fun n d => r_iloadn gx4_15 rfl) ?_)
    refine pt_d (pt_iald (N' := 8) gx4_16 S tl_44 z2 (fun v4 p4 q4 h4 => ?_))
    have H := H p4 q4
    refine pt_d (pt_if_le gx4_17 h4 (fun e5 => ?_) (fun e5 => ?_))
    · have H := H.1 e5
      refine pt_d (pt_iconst gx4_24 (fun v6 h6 => ?_))
      refine pt_d (pt_iadd gx4_25 z1 h6 (fun v7 h7 => ?_))
      refine pt_d (pt_1 (fun n d => r_istoren (L' := [some (.ref 41), some (.int v7), some (.int x2)]) gx4_26 rfl rfl) ?_)
      refine pt_d (pt_iinc (c := 1) gx4_27 rfl z2 (fun v8 h8 => ?_))
      show Pt _ _ _ _ [some (.ref 41), some (.int v7), some (.int v8)] [] _ _
      refine pt_d (pt_1 (fun n d => r_goto gx4_30) ?_)
      exact H v7 v8 h7 h8
    · have H := H.2 e5
      refine pt_d (pt_iconst gx4_20 (fun v9 h9 => ?_))
      refine pt_d (pt_1 (fun n d => r_goto gx4_21) ?_)
      refine pt_d (pt_iadd gx4_25 z1 h9 (fun v10 h10 => ?_))
      refine pt_d (pt_1 (fun n d => r_istoren (L' := [some (.ref 41), some (.int v10), some (.int x2)]) gx4_26 rfl rfl) ?_)
      refine pt_d (pt_iinc (c := 1) gx4_27 rfl z2 (fun v11 h11 => ?_))
      show Pt _ _ _ _ [some (.ref 41), some (.int v10), some (.int v11)] [] _ _
      refine pt_d (pt_1 (fun n d => r_goto gx4_30) ?_)
      exact H v10 v11 h10 h11
theorem d5_0 {n : Nat} {X : aX} {h : aH} {P : Int → aH → Prop} (S : wS h) (H : (∀ (w1 : Int32) (w2 : Int32), w1.toInt = 0 → w2.toInt = 0 → Pt n X zM5 4 [some (.ref 41), some (.int w1), some (.int w2)] [] h (qI P))) : Pt (n + 1) X zM5 0 [some (.ref 41), none, none] [] h (qI P) := by
  refine pt_iconst gx5_0 (fun v1 h1 => ?_)
  refine pt_d (pt_1 (fun n d => r_istoren (L' := [some (.ref 41), some (.int v1), none]) gx5_1 rfl rfl) ?_)
  refine pt_d (pt_iconst gx5_2 (fun v2 h2 => ?_))
  refine pt_d (pt_1 (fun n d => r_istoren (L' := [some (.ref 41), some (.int v1), some (.int v2)]) gx5_3 rfl rfl) ?_)
  exact H v1 v2 h1 h2
theorem d5_4 {n : Nat} {X : aX} {h : aH} {P : Int → aH → Prop} {x1 x2 : Int32} {a1 a2 : Int} (S : wS h) (z1 : x1.toInt = a1) (z2 : x2.toInt = a2) (H : ((8 ≤ a2 → P a1 h) ∧ (a2 < 8 → (0 ≤ a2 → a2 < 8 → (∀ (w1 : Int32) (w2 : Int32), w1.toInt = max a1 (vw h 44 a2) → w2.toInt = w32 (a2 + 1) → Pt n X zM5 4 [some (.ref 41), some (.int w1), some (.int w2)] [] h (qI P)))))) : Pt (n + 1) X zM5 4 [some (.ref 41), some (.int x1), some (.int x2)] [] h (qI P) := by
  refine pt_1 (fun n d => r_iloadn gx5_4 rfl) ?_
  refine pt_d (pt_bipush gx5_5 (fun v1 h1 => ?_))
  refine pt_d (pt_icmp_ge gx5_7 z2 h1 (fun e2 => ?_) (fun e2 => ?_))
  · have H := H.1 e2
    refine pt_d (pt_1 (fun n d => r_iloadn gx5_27 rfl) ?_)
    exact pt_d (pt_iret gx5_28 ⟨_, rfl, by rw [z1]; exact H⟩)
  · have H := H.2 e2
    refine pt_d (pt_1 (fun n d => r_iloadn gx5_10 rfl) ?_)
    refine pt_d (pt_1 (fun n d => r_aloadn gx5_11 rfl) ?_)
    refine pt_d (pt_getR gx5_12 S tr_41_5 ?_)
    refine pt_d (pt_1 (fun n d => r_iloadn gx5_15 rfl) ?_)
    refine pt_d (pt_iald (N' := 8) gx5_16 S tl_44 z2 (fun v4 p4 q4 h4 => ?_))
    have H := H p4 q4
    refine pt_d (pt_max gx5_17 rfl z1 h4 (fun v5 h5 => ?_))
    refine pt_d (pt_1 (fun n d => r_istoren (L' := [some (.ref 41), some (.int v5), some (.int x2)]) gx5_20 rfl rfl) ?_)
    refine pt_d (pt_iinc (c := 1) gx5_21 rfl z2 (fun v6 h6 => ?_))
    show Pt _ _ _ _ [some (.ref 41), some (.int v5), some (.int v6)] [] _ _
    refine pt_d (pt_1 (fun n d => r_goto gx5_24) ?_)
    exact H v5 v6 h5 h6
def mxN (f : Int → Int) : Nat → Int
  | 0 => 0
  | k + 1 => max (mxN f k) (f (k : Nat))
theorem mxN_c {f g : Int → Int} : ∀ k : Nat, (∀ j : Int, 0 ≤ j → j < (k : Int) → f j = g j) → mxN f k = mxN g k
  | 0, _ => rfl
  | k + 1, h => by
    have e : ∀ f : Int → Int, mxN f (k + 1) = max (mxN f k) (f (k : Nat)) := fun _ => rfl
    rw [e, e, mxN_c k (fun j a b => h j a (by omega)), h (k : Nat) (by omega) (by omega)]
theorem l_4 {X : aX} {h : aH} (S : wS h) : ∀ (n : Nat) (x1 x2 : Int32) (k : Nat), x1.toInt = nQ (fun j => 0 < vw h 44 j) k → x2.toInt = (k : Int) → k ≤ 8 → Pt n X zM4 4 [some (.ref 41), some (.int x1), some (.int x2)] [] h (qI (fun r h' => h' = h ∧ r = nQ (fun j => 0 < vw h 44 j) 8)) := by
  intro n
  induction n with
  | zero => intros; exact pt_z
  | succ n ih =>
    intro x1 x2 k h1 h2 hk
    have b := nQ_b (fun j => 0 < vw h 44 j) k
    refine d4_4 S h1 h2 ⟨fun e => ⟨rfl, ?_⟩, fun e _ _ => ⟨fun z w1 w2 g1 g2 => ?_, fun z w1 w2 g1 g2 => ?_⟩⟩
    · rw [show k = 8 by omega]
    · replace g1 := w_1 g1 (by omega) (by omega)
      replace g2 := w_1 g2 (by omega) (by omega)
      refine ih w1 w2 (k + 1) ?_ (by omega) (by omega)
      rw [nQ_f (P := fun j => 0 < vw h 44 j) (show ¬ 0 < vw h 44 (k : Nat) by omega)]
      exact g1
    · replace g1 := w_1 g1 (by omega) (by omega)
      replace g2 := w_1 g2 (by omega) (by omega)
      refine ih w1 w2 (k + 1) ?_ (by omega) (by omega)
      rw [nQ_t (P := fun j => 0 < vw h 44 j) z]
      exact g1
theorem c_4 {n : Nat} {X : aX} {h : aH} (S : wS h) : Pt n X zM4 0 [some (.ref 41), none, none] [] h (qI (fun r h' => h' = h ∧ r = nQ (fun j => 0 < vw h 44 j) 8)) :=
  pt_d (d4_0 S (fun w1 w2 g1 g2 => l_4 S n w1 w2 0 g1 g2 (Nat.zero_le _)))
theorem l_5 {X : aX} {h : aH} (S : wS h) : ∀ (n : Nat) (x1 x2 : Int32) (k : Nat), x1.toInt = mxN (fun j => vw h 44 j) k → x2.toInt = (k : Int) → k ≤ 8 → Pt n X zM5 4 [some (.ref 41), some (.int x1), some (.int x2)] [] h (qI (fun r h' => h' = h ∧ r = mxN (fun j => vw h 44 j) 8)) := by
  intro n
  induction n with
  | zero => intros; exact pt_z
  | succ n ih =>
    intro x1 x2 k h1 h2 hk
    refine d5_4 S h1 h2 ⟨fun e => ⟨rfl, ?_⟩, fun e _ _ w1 w2 g1 g2 => ?_⟩
    · rw [show k = 8 by omega]
    · replace g2 := w_1 g2 (by omega) (by omega)
      exact ih w1 w2 (k + 1) g1 (by omega) (by omega)
theorem c_5 {n : Nat} {X : aX} {h : aH} (S : wS h) : Pt n X zM5 0 [some (.ref 41), none, none] [] h (qI (fun r h' => h' = h ∧ r = mxN (fun j => vw h 44 j) 8)) :=
  pt_d (d5_0 S (fun w1 w2 g1 g2 => l_5 S n w1 w2 0 g1 g2 (Nat.zero_le _)))

theorem d7_0 {n : Nat} {X : aX} {h : aH} {P : Int → aH → Prop} {x1 x2 x3 x4 : Int32} {a1 a2 a3 a4 : Int} (S : wS h) (z1 : x1.toInt = a1) (z2 : x2.toInt = a2) (z3 : x3.toInt = a3) (z4 : x4.toInt = a4) (H : (vw h 1 6 ≤ 200 ∧ ((cHold (vw h) a2 (w32 ((w32 ((w32 (a3 * 365)) + 365)) - 1)) a4 ≠ a1 → P 0 h) ∧ (cHold (vw h) a2 (w32 ((w32 ((w32 (a3 * 365)) + 365)) - 1)) a4 = a1 → P 1 h)))) : Pt (n + 1) X zM7 0 [some (.ref 41), some (.int x1), some (.int x2), some (.int x3), some (.int x4)] [] h (qI P) := by
  refine pt_1 (fun n d => r_aloadn gx7_0 rfl) ?_
  refine pt_d (pt_getR gx7_1 S tr_41_0 ?_)
  refine pt_d (pt_1 (fun n d => r_iloadn gx7_4 rfl) ?_)
  refine pt_d (pt_1 (fun n d => r_iloadn gx7_5 rfl) ?_)
  refine pt_d (pt_sipush gx7_6 (fun v2 h2 => ?_))
  refine pt_d (pt_imul gx7_9 z3 h2 (fun v3 h3 => ?_))
  refine pt_d (pt_sipush gx7_10 (fun v4 h4 => ?_))
  refine pt_d (pt_iadd gx7_13 h3 h4 (fun v5 h5 => ?_))
  refine pt_d (pt_iconst gx7_14 (fun v6 h6 => ?_))
  refine pt_d (pt_isub gx7_15 h5 h6 (fun v7 h7 => ?_))
  refine pt_d (pt_1 (fun n d => r_iload gx7_16 rfl) ?_)
  obtain ⟨pr8, H⟩ := H
  refine pt_d (pt_virt (as := [.int x2, .int v7, .int x4]) (r := []) gx7_18 rfl (show zmt[86]? = some zM86 from rfl) rfl rfl rfl rfl (c_86 S z2 h7 z4 pr8) (kqP (fun v8 h8 => ?_)))
  show Pt _ _ _ 21 _ [.int v8] _ _
  refine pt_d (pt_1 (fun n d => r_iloadn gx7_21 rfl) ?_)
  refine pt_d (pt_icmp_ne gx7_22 h8 z1 (fun e9 => ?_) (fun e9 => ?_))
  · have H := H.1 e9
    refine pt_d (pt_iconst gx7_29 (fun v10 h10 => ?_))
    exact pt_d (pt_iret gx7_30 ⟨_, rfl, by rw [h10]; exact H⟩)
  · have H := H.2 e9
    refine pt_d (pt_iconst gx7_25 (fun v11 h11 => ?_))
    refine pt_d (pt_1 (fun n d => r_goto gx7_26) ?_)
    exact pt_d (pt_iret gx7_30 ⟨_, rfl, by rw [h11]; exact H⟩)
def ldY (y : Int) : Int := w32 (w32 (w32 (y * 365) + 365) - 1)
theorem c_7 {n : Nat} {X : aX} {h : aH} {x1 x2 x3 x4 : Int32} {a1 a2 a3 a4 : Int} (S : wS h) (z1 : x1.toInt = a1) (z2 : x2.toInt = a2) (z3 : x3.toInt = a3) (z4 : x4.toInt = a4) (hp : vw h 1 6 ≤ 200) : Pt n X zM7 0 [some (.ref 41), some (.int x1), some (.int x2), some (.int x3), some (.int x4)] [] h (qI (fun r h' => h' = h ∧ r = bI (cHold (vw h) a2 (ldY a3) a4 = a1))) :=
  pt_d (d7_0 S z1 z2 z3 z4 ⟨hp, fun e => ⟨rfl, (bI_f e).symm⟩, fun e => ⟨rfl, (bI_t e).symm⟩⟩)

theorem d6_0 {n : Nat} {X : aX} {h : aH} {P : Int → aH → Prop} {x1 x2 x3 : Int32} {a1 a2 a3 : Int} (S : wS h) (z1 : x1.toInt = a1) (z2 : x2.toInt = a2) (z3 : x3.toInt = a3) (H : (∀ (w4 : Int32) (w5 : Int32), w4.toInt = 0 → w5.toInt = 0 → Pt n X zM6 6 [some (.ref 41), some (.int x1), some (.int x2), some (.int x3), some (.int w4), some (.int w5)] [] h (qI P))) : Pt (n + 1) X zM6 0 [some (.ref 41), some (.int x1), some (.int x2), some (.int x3), none, none] [] h (qI P) := by
  refine pt_iconst gx6_0 (fun v1 h1 => ?_)
  refine pt_d (pt_1 (fun n d => r_istore (L' := [some (.ref 41), some (.int x1), some (.int x2), some (.int x3), some (.int v1), none]) gx6_1 rfl rfl) ?_)
  refine pt_d (pt_iconst gx6_3 (fun v2 h2 => ?_))
  refine pt_d (pt_1 (fun n d => r_istore (L' := [some (.ref 41), some (.int x1), some (.int x2), some (.int x3), some (.int v1), some (.int v2)]) gx6_4 rfl rfl) ?_)
  exact H v1 v2 h1 h2
theorem d6_6 {n : Nat} {X : aX} {h : aH} {P : Int → aH → Prop} {x1 x2 x3 x4 x5 : Int32} {a1 a2 a3 a4 a5 : Int} (S : wS h) (z1 : x1.toInt = a1) (z2 : x2.toInt = a2) (z3 : x3.toInt = a3) (z4 : x4.toInt = a4) (z5 : x5.toInt = a5) (H : ((vw h 1 4 ≤ a5 → P a4 h) ∧ (a5 < vw h 1 4 → (0 ≤ a5 → a5 < 150 → ((vw h 1 6 ≤ 200) ∧ ((¬ (cHold (vw h) (vw h 6 a5) (ldY a2) a3 = a1) → (∀ (w4 : Int32) (w5 : Int32), w4.toInt = w32 (a4 + 0) → w5.toInt = w32 (a5 + 1) → Pt n X zM6 6 [some (.ref 41), some (.int x1), some (.int x2), some (.int x3), some (.int w4), some (.int w5)] [] h (qI P))) ∧ ((cHold (vw h) (vw h 6 a5) (ldY a2) a3 = a1) → (∀ (w4 : Int32) (w5 : Int32), w4.toInt = w32 (a4 + 1) → w5.toInt = w32 (a5 + 1) → Pt n X zM6 6 [some (.ref 41), some (.int x1), some (.int x2), some (.int x3), some (.int w4), some (.int w5)] [] h (qI P))))))))) : Pt (n + 1) X zM6 6 [some (.ref 41), some (.int x1), some (.int x2), some (.int x3), some (.int x4), some (.int x5)] [] h (qI P) := by
  refine pt_1 (fun n d => r_iload gx6_6 rfl) ?_
  refine pt_d (pt_1 (fun n d => r_aloadn gx6_8 rfl) ?_)
  refine pt_d (pt_getR gx6_9 S tr_41_0 ?_)
  refine pt_d (pt_getI (B := 4) gx6_12 S (fun v2 h2 => ?_))
  refine pt_d (pt_icmp_ge gx6_15 z5 h2 (fun e3 => ?_) (fun e3 => ?_))
  · have H := H.1 e3
    refine pt_d (pt_1 (fun n d => r_iload gx6_54 rfl) ?_)
    exact pt_d (pt_iret gx6_56 ⟨_, rfl, by rw [z4]; exact H⟩)
  · have H := H.2 e3
    refine pt_d (pt_1 (fun n d => r_iload gx6_18 rfl) ?_)
    refine pt_d (pt_1 (fun n d => r_aloadn gx6_20 rfl) ?_)
    refine pt_d (pt_1 (fun n d => r_iloadn gx6_21 rfl) ?_)
    refine pt_d (pt_1 (fun n d => r_aloadn gx6_22 rfl) ?_)
    refine pt_d (pt_getR gx6_23 S tr_41_0 ?_)
    refine pt_d (pt_getR gx6_26 S tr_1_11 ?_)
    refine pt_d (pt_1 (fun n d => r_iload gx6_29 rfl) ?_)
    refine pt_d (pt_iald (N' := 150) gx6_31 S tl_6 z5 (fun v6 p6 q6 h6 => ?_))
    have H := H p6 q6
    refine pt_d (pt_1 (fun n d => r_iloadn gx6_32 rfl) ?_)
    refine pt_d (pt_1 (fun n d => r_iloadn gx6_33 rfl) ?_)
    obtain ⟨pr7, H⟩ := H
    refine pt_d (pt_virt (as := [.int x1, .int v6, .int x2, .int x3]) (r := [.int x4]) gx6_34 rfl (show zmt[7]? = some zM7 from rfl) rfl rfl rfl rfl (c_7 S z1 h6 z2 z3 pr7) (kqP (fun v7 h7 => ?_)))
    show Pt _ _ _ 37 _ [.int v7, .int x4] _ _
    refine pt_d (pt_ifB_eq gx6_37 h7 (fun e8 => ?_) (fun e8 => ?_))
    · have H := H.1 e8
      refine pt_d (pt_iconst gx6_44 (fun v9 h9 => ?_))
      refine pt_d (pt_iadd gx6_45 z4 h9 (fun v10 h10 => ?_))
      refine pt_d (pt_1 (fun n d => r_istore (L' := [some (.ref 41), some (.int x1), some (.int x2), some (.int x3), some (.int v10), some (.int x5)]) gx6_46 rfl rfl) ?_)
      refine pt_d (pt_iinc (c := 1) gx6_48 rfl z5 (fun v11 h11 => ?_))
      show Pt _ _ _ _ [some (.ref 41), some (.int x1), some (.int x2), some (.int x3), some (.int v10), some (.int v11)] [] _ _
      refine pt_d (pt_1 (fun n d => r_goto gx6_51) ?_)
      exact H v10 v11 h10 h11
    · have H := H.2 e8
      refine pt_d (pt_iconst gx6_40 (fun v12 h12 => ?_))
      refine pt_d (pt_1 (fun n d => r_goto gx6_41) ?_)
      refine pt_d (pt_iadd gx6_45 z4 h12 (fun v13 h13 => ?_))
      refine pt_d (pt_1 (fun n d => r_istore (L' := [some (.ref 41), some (.int x1), some (.int x2), some (.int x3), some (.int v13), some (.int x5)]) gx6_46 rfl rfl) ?_)
      refine pt_d (pt_iinc (c := 1) gx6_48 rfl z5 (fun v14 h14 => ?_))
      show Pt _ _ _ _ [some (.ref 41), some (.int x1), some (.int x2), some (.int x3), some (.int v13), some (.int v14)] [] _ _
      refine pt_d (pt_1 (fun n d => r_goto gx6_51) ?_)
      exact H v13 v14 h13 h14
theorem l_6 {X : aX} {h : aH} {f y t : Int} (S : wS h) (hp : vw h 1 6 ≤ 200) (hn : vw h 1 4 ≤ 150) : ∀ (n : Nat) (x1 x2 x3 x4 x5 : Int32) (k : Nat), x1.toInt = f → x2.toInt = y → x3.toInt = t → x4.toInt = nQ (fun i => cHold (vw h) (vw h 6 i) (ldY y) t = f) k → x5.toInt = (k : Int) → (k = 0 ∨ (k : Int) ≤ vw h 1 4) → Pt n X zM6 6 [some (.ref 41), some (.int x1), some (.int x2), some (.int x3), some (.int x4), some (.int x5)] [] h (qI (fun r h' => h' = h ∧ r = nQ (fun i => cHold (vw h) (vw h 6 i) (ldY y) t = f) (vw h 1 4).toNat)) := by
  intro n
  induction n with
  | zero => intros; exact pt_z
  | succ n ih =>
    intro x1 x2 x3 x4 x5 k h1 h2 h3 h4 h5 hk
    have b := nQ_b (fun i => cHold (vw h) (vw h 6 i) (ldY y) t = f) k
    refine d6_6 S h1 h2 h3 h4 h5 ⟨fun e => ⟨rfl, ?_⟩, fun e _ _ => ⟨hp, fun z w4 w5 g4 g5 => ?_, fun z w4 w5 g4 g5 => ?_⟩⟩
    · rw [show (vw h 1 4).toNat = k by omega]
    · replace g4 := w_1 g4 (by omega) (by omega)
      replace g5 := w_1 g5 (by omega) (by omega)
      refine ih x1 x2 x3 w4 w5 (k + 1) h1 h2 h3 ?_ (by omega) (Or.inr (by omega))
      rw [nQ_f (P := fun i => cHold (vw h) (vw h 6 i) (ldY y) t = f) z]
      exact g4
    · replace g4 := w_1 g4 (by omega) (by omega)
      replace g5 := w_1 g5 (by omega) (by omega)
      refine ih x1 x2 x3 w4 w5 (k + 1) h1 h2 h3 ?_ (by omega) (Or.inr (by omega))
      rw [nQ_t (P := fun i => cHold (vw h) (vw h 6 i) (ldY y) t = f) z]
      exact g4
theorem c_6 {n : Nat} {X : aX} {h : aH} {x1 x2 x3 : Int32} {a1 a2 a3 : Int} (S : wS h) (z1 : x1.toInt = a1) (z2 : x2.toInt = a2) (z3 : x3.toInt = a3) (hp : vw h 1 6 ≤ 200 ∧ vw h 1 4 ≤ 150) : Pt n X zM6 0 [some (.ref 41), some (.int x1), some (.int x2), some (.int x3), none, none] [] h (qI (fun r h' => h' = h ∧ r = nQ (fun i => cHold (vw h) (vw h 6 i) (ldY a2) a3 = a1) (vw h 1 4).toNat)) :=
  pt_d (d6_0 S z1 z2 z3 (fun w4 w5 g4 g5 => l_6 S hp.1 hp.2 n x1 x2 x3 w4 w5 0 z1 z2 z3 g4 g5 (Or.inl rfl)))
end

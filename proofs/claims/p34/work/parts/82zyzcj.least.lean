-- ===== 82zyzcj.least: 2 texts =====
section
-- ===== the least land =====
theorem d176_0 {n : Nat} {X : aX} {h : aH} {P : Int → aH → Prop} {x1 : Int32} {a1 : Int} (S : wS h) (z1 : x1.toInt = a1) (H : ((¬ (0 ≤ a1 ∧ a1 ≤ (w32 ((vw h 48 4) - 1))) → P (-1) h) ∧ ((0 ≤ a1 ∧ a1 ≤ (w32 ((vw h 48 4) - 1))) → (0 ≤ a1 → a1 < 10 → P (vw h 49 a1) h)))) : Pt (n + 1) X zM176 0 [some (.ref 0), some (.int x1)] [] h (qI P) := by
  refine pt_1 (fun n d => r_iloadn gx176_0 rfl) ?_
  refine pt_d (pt_iconst gx176_1 (fun v1 h1 => ?_))
  refine pt_d (pt_1 (fun n d => r_aloadn gx176_2 rfl) ?_)
  refine pt_d (pt_getR gx176_3 S tr_0_5 ?_)
  refine pt_d (pt_getI (B := 4) gx176_6 S (fun v3 h3 => ?_))
  refine pt_d (pt_iconst gx176_9 (fun v4 h4 => ?_))
  refine pt_d (pt_isub gx176_10 h3 h4 (fun v5 h5 => ?_))
  refine pt_d (pt_stat (as := [.int x1, .int v1, .int v5]) (r := []) gx176_11 rfl (show zmt[137]? = some zM137 from rfl) rfl rfl rfl rfl (c_137 S z1 h1 h5) (kqP (fun v6 h6 => ?_)))
  show Pt _ _ _ 14 _ [.int v6] _ _
  refine pt_d (pt_ifB_eq gx176_14 h6 (fun e7 => ?_) (fun e7 => ?_))
  · have H := H.1 e7
    refine pt_d (pt_iconst gx176_29 (fun v8 h8 => ?_))
    exact pt_d (pt_iret gx176_30 ⟨_, rfl, by rw [h8]; exact H⟩)
  · have H := H.2 e7
    refine pt_d (pt_1 (fun n d => r_aloadn gx176_17 rfl) ?_)
    refine pt_d (pt_getR gx176_18 S tr_0_5 ?_)
    refine pt_d (pt_getR gx176_21 S tr_48_3 ?_)
    refine pt_d (pt_1 (fun n d => r_iloadn gx176_24 rfl) ?_)
    refine pt_d (pt_iald (N' := 10) gx176_25 S tl_49 z1 (fun v11 p11 q11 h11 => ?_))
    have H := H p11 q11
    refine pt_d (pt_1 (fun n d => r_goto gx176_26) ?_)
    exact pt_d (pt_iret gx176_30 ⟨_, rfl, by rw [h11]; exact H⟩)
theorem d289_0 {n : Nat} {X : aX} {h : aH} {P : Int → aH → Prop} {x1 : Int32} {a1 : Int} (S : wS h) (z1 : x1.toInt = a1) (H : ((¬ (0 ≤ a1 ∧ a1 ≤ (w32 ((vw h 72 81) - 1))) → P (-1) h) ∧ ((0 ≤ a1 ∧ a1 ≤ (w32 ((vw h 72 81) - 1))) → (0 ≤ a1 → a1 < 10 → P (vw h 133 a1) h)))) : Pt (n + 1) X zM289 0 [some (.ref 72), some (.int x1)] [] h (qI P) := by
  refine pt_1 (fun n d => r_iloadn gx289_0 rfl) ?_
  refine pt_d (pt_iconst gx289_1 (fun v1 h1 => ?_))
  refine pt_d (pt_1 (fun n d => r_aloadn gx289_2 rfl) ?_)
  refine pt_d (pt_getI (B := 81) gx289_3 S (fun v2 h2 => ?_))
  refine pt_d (pt_iconst gx289_6 (fun v3 h3 => ?_))
  refine pt_d (pt_isub gx289_7 h2 h3 (fun v4 h4 => ?_))
  refine pt_d (pt_stat (as := [.int x1, .int v1, .int v4]) (r := []) gx289_8 rfl (show zmt[196]? = some zM196 from rfl) rfl rfl rfl rfl (c_196 S z1 h1 h4) (kqP (fun v5 h5 => ?_)))
  show Pt _ _ _ 11 _ [.int v5] _ _
  refine pt_d (pt_ifB_eq gx289_11 h5 (fun e6 => ?_) (fun e6 => ?_))
  · have H := H.1 e6
    refine pt_d (pt_iconst gx289_23 (fun v7 h7 => ?_))
    exact pt_d (pt_iret gx289_24 ⟨_, rfl, by rw [h7]; exact H⟩)
  · have H := H.2 e6
    refine pt_d (pt_1 (fun n d => r_aloadn gx289_14 rfl) ?_)
    refine pt_d (pt_getR gx289_15 S tr_72_82 ?_)
    refine pt_d (pt_1 (fun n d => r_iloadn gx289_18 rfl) ?_)
    refine pt_d (pt_iald (N' := 10) gx289_19 S tl_133 z1 (fun v9 p9 q9 h9 => ?_))
    have H := H p9 q9
    refine pt_d (pt_1 (fun n d => r_goto gx289_20) ?_)
    exact pt_d (pt_iret gx289_24 ⟨_, rfl, by rw [h9]; exact H⟩)
def R176 (V : vS) (a r : Int) : Prop := (¬ (0 ≤ a ∧ a ≤ w32 (V 48 4 - 1)) ∧ r = -1) ∨ ((0 ≤ a ∧ a ≤ w32 (V 48 4 - 1)) ∧ r = V 49 a)
def R289 (V : vS) (a r : Int) : Prop := (¬ (0 ≤ a ∧ a ≤ w32 (V 72 81 - 1)) ∧ r = -1) ∨ ((0 ≤ a ∧ a ≤ w32 (V 72 81 - 1)) ∧ r = V 133 a)
theorem c_176 {n : Nat} {X : aX} {h : aH} {x1 : Int32} {a1 : Int} (S : wS h) (z1 : x1.toInt = a1) : Pt n X zM176 0 [some (.ref 0), some (.int x1)] [] h (qI (fun r h' => h' = h ∧ R176 (vw h) a1 r)) :=
  pt_d (d176_0 S z1 ⟨fun e => ⟨rfl, Or.inl ⟨e, rfl⟩⟩, fun e _ _ => ⟨rfl, Or.inr ⟨e, rfl⟩⟩⟩)
theorem c_289 {n : Nat} {X : aX} {h : aH} {x1 : Int32} {a1 : Int} (S : wS h) (z1 : x1.toInt = a1) : Pt n X zM289 0 [some (.ref 72), some (.int x1)] [] h (qI (fun r h' => h' = h ∧ R289 (vw h) a1 r)) :=
  pt_d (d289_0 S z1 ⟨fun e => ⟨rfl, Or.inl ⟨e, rfl⟩⟩, fun e _ _ => ⟨rfl, Or.inr ⟨e, rfl⟩⟩⟩)
def JGiv (V : vS) : Prop := ((V 48 4 = V 72 81 ∧ 0 ≤ V 48 4 ∧ V 48 4 ≤ 10) ∨ (V 48 4 = 0 ∧ V 72 81 = -1)) ∧ ∀ i, 0 ≤ i → i < V 48 4 → V 49 i = V 133 i
def LGiv : List (Nat × Option Nat) := [(48, some 4), (72, some 81), (49, none), (133, none)]
theorem JGiv_ag {V W : vS} (J : JGiv V) (A : ag LGiv V W) : JGiv W := by
  obtain ⟨a1, a2, a3, a4, -⟩ := A
  have a1 : W 48 4 = V 48 4 := a1
  have a2 : W 72 81 = V 72 81 := a2
  unfold JGiv at J ⊢
  simp only [a1, a2, a3, a4]
  exact J
theorem JGiv_dG {W : List (Nat × Nat)} {σ σ1 : List Nat} {h h1 : aH} (J : JGiv (vw h)) (I : dI σ h) (G : dG W σ h σ1 h1) (k : frL W LGiv = true) : JGiv (vw h1) := JGiv_ag J (ag_dG I.1 G _ k)
theorem zJGiv0 : JGiv (vw zH0) := by
  have e1 : vw zH0 48 4 = 0 := vzf (i := 4) (x := 0) zh48 rfl
  have e2 : vw zH0 72 81 = -1 := vzf (i := 81) (x := -1) zh72 rfl
  unfold JGiv
  rw [e1, e2]
  exact ⟨Or.inr ⟨rfl, rfl⟩, fun i a b => by omega⟩
theorem jx_32 {V : vS} {a r1 r2 : Int} (J : JGiv V) (c : R176 V a r1) (m : R289 V a r2) : r1 = r2 := by
  obtain ⟨J, K⟩ := J
  unfold R176 at c
  unfold R289 at m
  rcases J with ⟨e, j0, j1⟩ | ⟨e1, e2⟩
  · rw [← e] at m
    have w : w32 (V 48 4 - 1) = V 48 4 - 1 := w32_id (by omega) (by omega)
    rw [w] at c m
    rcases c with ⟨c1, c2⟩ | ⟨c1, c2⟩
    · rcases m with ⟨m1, m2⟩ | ⟨m1, m2⟩
      · rw [c2, m2]
      · exact absurd m1 c1
    · rcases m with ⟨m1, m2⟩ | ⟨m1, m2⟩
      · exact absurd c1 m1
      · rw [c2, m2]
        exact K a c1.1 (by omega)
  · have w1 : w32 (V 48 4 - 1) = -1 := by rw [e1]; exact w32_id (by decide) (by decide)
    have w2 : w32 (V 72 81 - 1) = -2 := by rw [e2]; exact w32_id (by decide) (by decide)
    rw [w1] at c
    rw [w2] at m
    rcases c with ⟨c1, c2⟩ | ⟨c1, c2⟩
    · rcases m with ⟨m1, m2⟩ | ⟨m1, m2⟩
      · rw [c2, m2]
      · omega
    · omega
theorem R60_f {V W : vS} {s m r : Int} (R : R60 V s m r W) : ∀ (c : Nat) j, c ≠ 49 → (c ≠ 48 ∨ j ≠ 4) → W c j = V c j := fun c j a b => by
  by_cases z : c = 48
  · rw [z]
    rw [z] at b
    exact R.2.1.2 j (by omega)
  · exact R.2.1.1 c j z a
theorem R53_f {V W : vS} {q : Nat} {r : Int} (R : R53 V q r W) : ∀ (c : Nat) j, c ≠ 48 → c ≠ 49 → c ≠ 50 → c ≠ 51 → W c j = V c j := fun c j a b d e => by
  rcases R with ⟨-, -, f⟩ | ⟨-, U, f, -, -, R⟩
  · exact f c j d
  · exact (R60_f R c j b (Or.inl a)).trans (f c j d e)
theorem ar_m {U X : vS} {m : Int} (hm : 0 ≤ m ∧ m ≤ 10) (e : ∀ i, 0 ≤ i → i < m → U 3 (U 50 i) = X 78 (X 132 i) ∧ -2147483648 ≤ X 78 (X 132 i) ∧ X 78 (X 132 i) ≤ 2147483647) {s : Nat} (hs : s < 1024) : ∀ k : Nat, (k : Int) ≤ m → arN U (s : Nat) k = maN X (s : Nat) k
  | 0, _ => rfl
  | k + 1, hk => by
    have ih := ar_m hm e hs k (by omega)
    have a : arN U (s : Nat) (k + 1) = w32 (arN U (s : Nat) k + w32 (bAnd (bShr (s : Nat) (k : Nat)) 1 * U 3 (U 50 (k : Nat)))) := rfl
    obtain ⟨e1, e2, e3⟩ := e (k : Nat) (by omega) (by omega)
    rw [a, maN_s, ih, e1, b01k2 hs (by omega)]
    cases tb (s : Int) k with
    | true =>
      have w : w32 (1 * X 78 (X 132 (k : Nat))) = X 78 (X 132 (k : Nat)) := by rw [Int.one_mul]; exact w32_id e2 e3
      show w32 (maN X (s : Nat) k + w32 (1 * X 78 (X 132 (k : Nat)))) = w32 (maN X (s : Nat) k + X 78 (X 132 (k : Nat)))
      rw [w]
    | false =>
      have w : w32 (0 * X 78 (X 132 (k : Nat))) = 0 := by rw [Int.zero_mul]; exact w32_id (by decide) (by decide)
      show w32 (maN X (s : Nat) k + w32 (0 * X 78 (X 132 (k : Nat)))) = w32 (maN X (s : Nat) k + 0)
      rw [w]
theorem JCf_f {V W : vS} (F : JCf V) (e : ∀ (c : Nat) j, c < 146 → c ≠ 42 → W c j = V c j) : JCf W := by
  have f : ∀ b, cFarm W b ↔ cFarm V b := fun b => by
    unfold cFarm cBody
    rw [e 1 1 (by decide) (by decide), e 2 b (by decide) (by decide)]
  have g : ∀ b, cField W b ↔ cField V b := fun b => by
    unfold cField cBody
    rw [e 1 1 (by decide) (by decide), e 2 b (by decide) (by decide)]
  refine ⟨fun c => by rw [e 18 c (by decide) (by decide)]; exact F.1 c, fun c c0 c1 => ?_⟩
  rw [e 16 1 (by decide) (by decide)] at c1
  rw [e 17 c (by decide) (by decide), e 18 c (by decide) (by decide), f, g]
  exact F.2 c c0 c1
theorem sB_N {s : Nat} (hs : s < 1024) {i : Int} (i0 : 0 ≤ i) (i1 : i < 10) : sBt (s : Nat) i ↔ sN0 (s : Nat) i := by
  obtain ⟨n, rfl⟩ : ∃ n : Nat, i = (n : Int) := ⟨i.toNat, by omega⟩
  unfold sBt sN0
  rw [b01k2 hs (by omega)]
  cases tb (s : Int) n with
  | true => exact ⟨fun _ => by decide, fun _ => rfl⟩
  | false => exact ⟨fun z => absurd z (by decide), fun z => absurd rfl z⟩
-- what was given: both sides' lists are one
theorem giv_e {U X W1 W2 : vS} {m l r1 r2 : Int} {s : Nat} (hm : 0 ≤ m ∧ m ≤ 10) (hs : s < 1024) (x : ∀ i, 0 ≤ i → i < m → X 132 i = U 50 i) (R : R60 U (s : Nat) m r1 W1) (M : R8e X (s : Nat) l m r2 W2) (f4 : W2 48 4 = W1 48 4) (f9 : ∀ j, W2 49 j = W1 49 j) : JGiv W2 := by
  obtain ⟨-, -, a4, a9⟩ := R
  obtain ⟨-, -, b4, b9⟩ := M
  have e : ∀ k : Nat, (k : Int) ≤ m → nQ (sBt (s : Nat)) k = nQ (sN0 (s : Nat)) k := fun k hk => nQ_c k (fun j j0 j1 => sB_N hs j0 (by omega))
  have b := nQ_b (sBt (s : Nat)) m.toNat
  refine ⟨Or.inl ⟨?_, ?_, ?_⟩, fun i i0 i1 => ?_⟩
  · rw [f4, a4, b4]
    exact e m.toNat (by omega)
  · rw [f4, a4]
    exact b.1
  · rw [f4, a4]
    omega
  · rw [f4, a4] at i1
    obtain ⟨k, k1, k2, k3⟩ := nQ_inv (R := sBt (s : Nat)) i0 m.toNat i1
    have h1 := a9 k (by omega) k2
    have h2 := b9 k (by omega) ((sB_N hs (by omega) (by omega)).mp k2)
    rw [← e k (by omega), k3] at h2
    rw [k3] at h1
    rw [f9, h1, h2, x (k : Nat) (by omega) (by omega)]
end
section
-- ===== the least land =====
theorem jx_31 {h h1 h2 : aH} {y r1 r2 : Int} (I0 : IV h) (A : AP (vw h)) (F : JCf (vw h)) (h3 : ∀ j, 0 ≤ j → j < 150 → -2147483648 ≤ vw h 3 j ∧ vw h 3 j ≤ 2147483647) (hd : vw h 1 0 = vw h 72 1) (J : JGiv (vw h)) (c : R175 h y r1 h1 ∧ IV h1) (m : ((0 ≤ vw h1 72 2 ∧ vw h1 72 2 ≤ 150) ∧ (∀ c, 0 ≤ c → c < 300 → 0 ≤ vw h1 88 c ∧ vw h1 88 c < 150) → R88 (vw h1) y r2 (vw h2)) ∧ IV h2) : (JSea (vw h2) ∧ JRk (vw h2) ∧ JGiv (vw h2)) ∧ r1 = r2 := by
  have fr : ∀ (c : Nat) j, c < 146 → c ≠ 42 → c ≠ 48 → c ≠ 49 → c ≠ 50 → c ≠ 51 → vw h1 c j = vw h c j := by
    rcases c.1 with ⟨-, -, rfl⟩ | ⟨-, q, g, R, K⟩
    · exact fun _ _ _ _ _ _ _ _ => rfl
    · exact fun c j u v a b d e => (R53_f K c j a b d e).trans (R1_f R c j u v)
  have B := A.1.2.1
  have C := A.1.1
  have b1 := B.2.2.2.2.2.1
  have b2 := B.2.2.2.2.2.2.1
  have n2 : vw h1 72 2 = vw h 1 1 := by rw [fr 72 2 (by decide) (by decide) (by decide) (by decide) (by decide) (by decide)]; exact B.1.symm
  have n88 : ∀ c, 0 ≤ c → c < 300 → 0 ≤ vw h1 88 c ∧ vw h1 88 c < 150 := fun c _ _ => by
    rw [fr 88 c (by decide) (by decide) (by decide) (by decide) (by decide) (by decide), ← C.2.2.1]
    exact F.1 c
  have M := m.1 ⟨by rw [n2]; exact ⟨b1, b2⟩, n88⟩
  have go : JGiv (vw h2) ∧ r1 = r2 := by
    rcases c.1 with ⟨n, rfl, rfl⟩ | ⟨o, q, g, R, K⟩
    · rcases M with ⟨-, rfl, e⟩ | ⟨o', -⟩
      · rw [e]
        exact ⟨J, rfl⟩
      · exact absurd o' n
    · rcases M with ⟨n, -⟩ | ⟨-, G, RR, RM⟩
      · exact absurd o n
      · have fg := R1_f R
        have Ag := AP_f A fg
        have Fg := JCf_f F fg
        have Sc := R1_sc I0 R
        have Bg := Ag.1.2.1
        have Cg := Ag.1.1
        have x : ∀ (c : Nat) j, 72 ≤ c → c ≤ 110 → vw h1 c j = vw g c j := fun c j u v => R53_f K c j (by omega) (by omega) (by omega) (by omega)
        have k1 : vw h1 72 1 = vw h 1 0 := by rw [fr 72 1 (by decide) (by decide) (by decide) (by decide) (by decide) (by decide)]; exact hd.symm
        rw [k1] at RR
        have RD := rkd_m x RR
        have AR := RR.1.1
        have Gx : ∀ (c : Nat) j, 72 ≤ c → c < 103 → c ≠ 72 → G c j = vw g c j := fun c j u v z => (agR_x AR c j v z).trans (x c j u (by omega))
        have Gy : ∀ j, j ≠ 38 → j ≠ 39 → G 72 j = vw g 72 j := fun j u v => (agR_y AR u v).trans (x 72 j (by decide) (by decide))
        have e8 : ∀ c, G 88 c = vw g 88 c := fun c => Gx 88 c (by decide) (by decide) (by decide)
        have e80 : ∀ c, G 80 c = vw g 80 c := fun c => Gx 80 c (by decide) (by decide) (by decide)
        have em : ∀ b, mField G b ↔ mField (vw g) b := fun b => by
          unfold mField mBody
          rw [Gy 2 (by decide) (by decide), Gx 73 b (by decide) (by decide) (by decide)]
        have tt : ∀ b, TR (vw g) q b ↔ TM G y b := TR_e Ag Sc Fg RD e8 e80 em
        have en : (G 72 2).toNat = (vw g 1 1).toNat := by rw [Gy 2 (by decide) (by decide), ← Bg.1]
        have cn : ∀ k : Nat, nQ (TR (vw g) q) k = nQ (TM G y) k := fun k => nQ_c k (fun j _ _ => tt j)
        have m0 := nQ_b (TR (vw g) q) (vw g 1 1).toNat
        have kg : ∀ (c : Nat) j, c = 48 ∨ c = 49 ∨ c = 133 ∨ (c = 72 ∧ j = 81) → vw g c j = vw h c j := fun c j z => fg c j (by omega) (by omega)
        rcases K with ⟨over, rfl, kf⟩ | ⟨fit, U, uf, u50, u51, KR⟩
        · rcases RM with ⟨-, rfl, e⟩ | ⟨fit, -⟩
          · refine ⟨?_, rfl⟩
            have s4 : vw h2 48 4 = vw h 48 4 := by rw [e, agR_x AR 48 4 (by decide) (by decide), kf 48 4 (by decide), kg 48 4 (Or.inl rfl)]
            have s81 : vw h2 72 81 = vw h 72 81 := by rw [e, Gy 81 (by decide) (by decide), kg 72 81 (Or.inr (Or.inr (Or.inr ⟨rfl, rfl⟩)))]
            have s49 : ∀ j, vw h2 49 j = vw h 49 j := fun j => by rw [e, agR_x AR 49 j (by decide) (by decide), kf 49 j (by decide), kg 49 j (Or.inr (Or.inl rfl))]
            have s133 : ∀ j, vw h2 133 j = vw h 133 j := fun j => by rw [e, AR 133 j (Or.inr (by decide)) (Or.inl (by decide)), kf 133 j (by decide), kg 133 j (Or.inr (Or.inr (Or.inl rfl)))]
            unfold JGiv at J ⊢
            simp only [s4, s81, s49, s133]
            exact J
          · rw [en, ← cn] at fit
            omega
        · rcases RM with ⟨over, -⟩ | ⟨-, X, xf, x79, x132, MR⟩
          · rw [en, ← cn] at over
            omega
          · rw [en, ← cn] at x79 MR
            obtain ⟨m, hm⟩ : ∃ m, m = nQ (TR (vw g) q) (vw g 1 1).toNat := ⟨_, rfl⟩
            rw [← hm] at fit m0 u51 KR x79 MR
            have mm : 0 ≤ m ∧ m ≤ 10 := ⟨m0.1, fit⟩
            have p2 := p2_b mm
            have gN : G 72 2 = vw g 1 1 := by rw [Gy 2 (by decide) (by decide), ← Bg.1]
            have ent : ∀ i, 0 ≤ i → i < m → ∃ b : Nat, (b : Int) < vw g 1 1 ∧ TR (vw g) q (b : Nat) ∧ U 50 i = (b : Nat) ∧ X 132 i = (b : Nat) := fun i i0 i1 => by
              obtain ⟨b, q1, q2, q3⟩ := nQ_inv (R := TR (vw g) q) i0 (vw g 1 1).toNat (by rw [← hm]; exact i1)
              have w1 := u50 b (by omega) q2
              have w2 := x132 b (by rw [gN]; omega) ((tt _).mp q2)
              rw [q3] at w1
              rw [← cn, q3] at w2
              exact ⟨b, by omega, q2, w1, w2⟩
            have xe : ∀ i, 0 ≤ i → i < m → X 132 i = U 50 i := fun i i0 i1 => by
              obtain ⟨b, -, -, w1, w2⟩ := ent i i0 i1
              rw [w1, w2]
            have ec : ∀ s : Nat, s < 2 ^ m.toNat → (endA U (s : Nat) m ↔ cur X (s : Nat) y) := fun s hs => set_e Ag Sc Fg RD e8 e80 em hm mm.2 u50 u51 xf.1 (xf.2 19 (by decide)) x79 xe hs
            have ea : ∀ s : Nat, s < 2 ^ m.toNat → arN U (s : Nat) m.toNat = maN X (s : Nat) m.toNat := fun s hs => by
              refine ar_m mm (fun i i0 i1 => ?_) (by omega) m.toNat (by omega)
              obtain ⟨b, b1, b2, w1, w2⟩ := ent i i0 i1
              have bM := (Bg.2.2.2.2.2.2.2.2 (b : Nat) (by omega) b1).2.1 b2.1.2.1 b2.1.2.2
              have hb := h3 (b : Nat) (by omega) (by have := Bg.2.2.2.2.2.2.1; omega)
              have v3 : vw g 3 (b : Nat) = vw h 3 (b : Nat) := fg 3 _ (by decide) (by decide)
              have v78 : X 78 (b : Nat) = vw g 78 (b : Nat) := (xf.1 78 _ (by decide) (by decide)).trans (Gx 78 _ (by decide) (by decide) (by decide))
              have u3 : U 3 (b : Nat) = vw g 3 (b : Nat) := uf 3 _ (by decide) (by decide)
              rw [w1, w2, v78, u3, ← bM, v3]
              exact ⟨rfl, hb⟩
            obtain ⟨⟨c0, c1⟩, ce, cv⟩ := best_e mm ea ec
            obtain ⟨s, es⟩ : ∃ s : Nat, chF U m (2 ^ m.toNat) = (s : Int) := ⟨(chF U m (2 ^ m.toNat)).toNat, by omega⟩
            rw [← ce, ← cv, es] at MR
            rw [es] at KR c1
            have hs : s < 1024 := by omega
            have f : ∀ (c : Nat) j, c = 48 ∨ c = 49 → vw h2 c j = vw h1 c j := fun c j z => ((MR.2.1.1 c j (by omega) (by omega)).trans (xf.1 c j (by omega) (by omega))).trans (agR_x AR c j (by omega) (by omega))
            refine ⟨giv_e mm hs xe KR MR (f 48 4 (Or.inl rfl)) (fun j => f 49 j (Or.inr rfl)), ?_⟩
            rw [KR.1, MR.1]
  exact ⟨⟨JSea_IV m.2, rOK_IV m.2, go.1⟩, go.2⟩
end

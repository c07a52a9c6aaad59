-- ===== the draw =====
theorem dyf_le {x t r t' : Int32} (h : dyf x t r t') : t.toInt ≤ t'.toInt := by
  rcases h with ⟨a, -, -, e, -⟩ | ⟨-, e, -⟩
  · omega
  · rw [e]
    exact Int.le_refl _
def frC (W : List (Nat × Nat)) : Bool := W.all (fun t => Nat.blt t.1 72 || Nat.blt 110 t.1)
theorem frC_n {W : List (Nat × Nat)} (k : frC W = true) {r i : Nat} (hr : 72 ≤ r ∧ r ≤ 110) : cWn W r i = false := by
  unfold cWn
  rw [List.any_eq_false]
  intro t ht
  unfold frC at k
  rw [List.all_eq_true] at k
  have n := k t ht
  simp only [Bool.or_eq_true, Nat.blt_eq] at n
  intro z
  simp only [Bool.and_eq_true] at z
  have e := Nat.eq_of_beq_eq_true z.1
  omega
theorem fr_dG {W : List (Nat × Nat)} {σ σ1 : List Nat} {h h1 : aH} (I : dI σ h) (G : dG W σ h σ1 h1) (k : frC W = true) : ∀ (c : Nat) j, 72 ≤ c → c ≤ 110 → vw h1 c j = vw h c j := fun c j u v => vw_un I G (I.1.2.2.2 c (by omega)) (fun i => frC_n k ⟨u, v⟩) j
theorem lat_e {V : vS} {q : Nat} {y k f : Int} (A : AP V) (S : scK V q y k) (hf : 0 ≤ f ∧ f < 150) : isMx (fun c => (0 ≤ c ∧ c < V 72 19) ∧ LkM V k y c ∧ V 87 c = f) (V (q + 7) f) := by
  have E := A.1
  obtain ⟨C, B, Od, hd, -⟩ := E
  obtain ⟨-, L, -, -, -, T⟩ := S
  obtain ⟨-, -, m1, m2, m3⟩ := T f hf.1 hf.2
  have e : ∀ c, tmS V q f (V q 5) c ↔ ((0 ≤ c ∧ c < V 72 19) ∧ LkM V k y c ∧ V 87 c = f) := fun c => by
    constructor
    · rintro ⟨i, ⟨i0, iN⟩, ef, ec⟩
      obtain ⟨p, pN, zc, ci, e⟩ := li_s L i0 iN
      have m0 := Od.1 (p : Nat) (by omega) pN
      have l0 := (cnt_l C B Od hd (by omega) pN).mp zc
      rw [← e, ec] at m0 l0
      unfold fmA at ef
      rw [ec, C.2.1] at ef
      exact ⟨⟨m0.1, by rw [← C.1]; exact m0.2⟩, l0, ef⟩
    · rintro ⟨n, l, ef⟩
      obtain ⟨p, pN, z, e, lt, s⟩ := li_m C B Od hd L n.1 n.2 l
      refine ⟨((cnN V y k p : Nat) : Int), ⟨by omega, lt⟩, ?_, s⟩
      unfold fmA
      rw [s, C.2.1]
      exact ef
  exact ⟨m1, m2.imp id (fun z => (e _).mp z), fun c hc => m3 c ((e c).mpr hc)⟩
theorem lat_n1 {V : vS} {q : Nat} {y k f : Int} (A : AP V) (S : scK V q y k) (hf : 0 ≤ f ∧ f < 150) : V (q + 7) f ≠ -1 ↔ ∃ c, (0 ≤ c ∧ c < V 72 19) ∧ LkM V k y c ∧ V 87 c = f := by
  obtain ⟨m1, m2, m3⟩ := lat_e A S hf
  constructor
  · intro z
    rcases m2 with m2 | m2
    · exact absurd m2 z
    · exact ⟨_, m2⟩
  · rintro ⟨c, hc⟩ z
    have := m3 c hc
    have := hc.1.1
    omega
theorem jx_34 {h h1 h2 : aH} {l y n r1 r2 : Int} (I0 : IV h) (A : AP (vw h)) (fr : ∀ (c : Nat) j, 72 ≤ c → c ≤ 110 → vw h1 c j = vw h c j) (hd : vw h 1 0 = vw h 72 1) (c : R178 h l y n r1 ∧ IV h1) (m : (0 ≤ vw h1 72 2 ∧ vw h1 72 2 ≤ 150 → R292 (vw h1) l y n r2) ∧ IV h2) : (JSea (vw h2) ∧ JRk (vw h2)) ∧ r1 = r2 := by
  refine ⟨⟨JSea_IV m.2, rOK_IV m.2⟩, ?_⟩
  have B := A.1.2.1
  have b1 := B.2.2.2.2.2.1
  have b2 := B.2.2.2.2.2.2.1
  have n2 : vw h1 72 2 = vw h 1 1 := by rw [fr 72 2 (by decide) (by decide)]; exact B.1.symm
  have m := m.1 (by rw [n2]; exact ⟨b1, b2⟩)
  rcases c.1 with ⟨n, rfl⟩ | ⟨o, g', ⟨q, g, R, cn, -⟩, e1⟩
  · rcases m with ⟨-, rfl⟩ | ⟨o', -⟩
    · rfl
    · exact absurd o' n
  · rcases m with ⟨n, -⟩ | ⟨-, W, RR, e2⟩
    · exact absurd o n
    · have fg := R1_f R
      have Ag := AP_f A fg
      have Sc := R1_sc I0 R
      have k1 : vw h1 72 1 = vw h 1 0 := by rw [fr 72 1 (by decide) (by decide)]; exact hd.symm
      rw [k1] at RR
      have x : ∀ (c : Nat) j, 72 ≤ c → c ≤ 110 → vw h1 c j = vw g c j := fun c j u v => (fr c j u v).trans (fg c j (by omega) (by omega)).symm
      have AR := RR.1.1
      have M : agM (vw g) (vw h1) := ⟨fun c j u v => x c j (by omega) (by omega), x 72 _ (by decide) (by decide), x 72 _ (by decide) (by decide), x 72 _ (by decide) (by decide)⟩
      have x2 : ∀ (c : Nat) j, 72 < c → c < 103 → W c j = vw g c j := fun c j u v => (agR_x AR c j v (by omega)).trans (x c j (by omega) (by omega))
      have y2 : ∀ j, j ≠ 38 → j ≠ 39 → W 72 j = vw g 72 j := fun j u v => (agR_y AR u v).trans (x 72 j (by decide) (by decide))
      have Bg := Ag.1.2.1
      have g0 := Bg.2.2.2.2.2.1
      have g1 := Bg.2.2.2.2.2.2.1
      have PE : ∀ b, 0 ≤ b → b < vw g 1 1 → (P62 (vw g) q l b ↔ P292 W l y b) := fun b c0 c1 => by
        unfold P62 P292
        have fm : (cFarm (vw g) b ∧ vw g 3 b = l) ↔ (mFarm W b ∧ W 74 b = l) := by
          rw [farm_j Bg]
          unfold mFarm mBody
          rw [y2 2 (by decide) (by decide), x2 73 b (by decide) (by decide), x2 74 b (by decide) (by decide)]
          refine and_congr_right (fun w => ?_)
          rw [(Bg.2.2.2.2.2.2.2.2 b c0 c1).1 (((farm_j Bg b).mpr w).2)]
        have cl : vw g (q + 7) b ≠ -1 ↔ ∃ c, (0 ≤ c ∧ c < W 72 19) ∧ (W 103 c ≠ 0 ∧ W 87 c = b ∧ iDiv (W 90 c) 365 = y) := by
          rw [lat_n1 Ag Sc ⟨c0, by omega⟩]
          have e19 := y2 19 (by decide) (by decide)
          have rk' : ∀ c, 0 ≤ c → c < vw g 72 19 → (W 103 c ≠ 0 ↔ mcn (vw g) c (vw h 1 0)) := fun c u v => by
            rw [RR.1.2.2 c u (by rw [x 72 19 (by decide) (by decide)]; exact v), ← mcn_m M c]
            by_cases z : mcn (vw h1) c (vw h 1 0)
            · rw [bI_t z]
              exact ⟨fun _ => z, fun _ => by decide⟩
            · rw [bI_f z]
              exact ⟨fun w => absurd rfl w, fun w => absurd w z⟩
          constructor
          · rintro ⟨c, nc, lk, ef⟩
            exact ⟨c, by rw [e19]; exact nc, (rk' c nc.1 nc.2).mpr lk.1, by rw [x2 87 c (by decide) (by decide)]; exact ef, by rw [x2 90 c (by decide) (by decide)]; exact lk.2⟩
          · rintro ⟨c, nc, a, ef, ey⟩
            rw [e19] at nc
            rw [x2 87 c (by decide) (by decide)] at ef
            rw [x2 90 c (by decide) (by decide)] at ey
            exact ⟨c, nc, ⟨(rk' c nc.1 nc.2).mp a, ey⟩, ef⟩
        rw [fm, cl]
      have en : (W 72 2).toNat = (vw g 1 1).toNat := by rw [y2 2 (by decide) (by decide), ← Bg.1]
      rw [e1, e2, cn, en, nQ_c _ (fun j a b => PE j a (by omega))]


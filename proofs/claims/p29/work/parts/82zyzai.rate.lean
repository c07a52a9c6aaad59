-- ===== the rate of errors =====
theorem iDiv_np {a : Int} (h : -2147483648 ≤ a ∧ a < 0) : iDiv a 100 ≤ 0 := by
  unfold iDiv
  have e1 : (Int32.ofInt a).toInt = a := Int32.toInt_ofInt_of_le (by omega) (by omega)
  have e2 : (Int32.ofInt 100).toInt = 100 := by decide
  have t := (tdiv_b (x := (Int32.ofInt a).toInt) (y := (Int32.ofInt 100).toInt) (by omega)).2 (by omega)
  rw [i_div (by omega) (by omega)]
  exact t.2
theorem J66_fr {V W : vS} {q : Nat} {y : Int} (J : J66 V q y W) : ∀ (c : Nat) j, c ≠ 48 → W c j = V c j := J.1.1
theorem jx_36 {h h1 h2 : aH} {y w pw r1 r2 : Int} (I0 : IV h) (A : AP (vw h)) (hd : vw h 1 0 = vw h 72 1) (c : R180 h y w pw r1 h1 ∧ IV h1) (m : (0 ≤ vw h1 72 2 ∧ vw h1 72 2 ≤ 150 → R298 (vw h1) y w pw r2 (vw h2)) ∧ IV h2) : (JSea (vw h2) ∧ JRk (vw h2)) ∧ r1 = r2 := by
  refine ⟨⟨JSea_IV m.2, rOK_IV m.2⟩, ?_⟩
  have fr : ∀ (c : Nat) j, c < 146 → c ≠ 42 → c ≠ 48 → vw h1 c j = vw h c j := by
    rcases c.1.2 with ⟨-, -, rfl⟩ | ⟨-, ⟨q, g, R, J⟩, -⟩
    · exact fun _ _ _ _ _ => rfl
    · exact fun c j u v x => (J.1.1 c j x).trans (R1_f R c j u v)
  have B := A.1.2.1
  have b1 := B.2.2.2.2.2.1
  have b2 := B.2.2.2.2.2.2.1
  have n2 : vw h1 72 2 = vw h 1 1 := by rw [fr 72 2 (by decide) (by decide) (by decide)]; exact B.1.symm
  have m := m.1 (by rw [n2]; exact ⟨b1, b2⟩)
  have ok : okRt y w pw ↔ okRm y w pw := by
    unfold okRt okRm
    refine and_congr_right (fun _ => and_congr_right (fun _ => imp_congr_right (fun _ => ?_)))
    have fwd : ∀ p : Int, (0 ≤ p ∧ p ≤ 2147483647) → (((1 ≤ iDiv p 100 ∧ iDiv p 100 ≤ 99) ∧ 1 ≤ iRem p 100 ∧ iRem p 100 ≤ 49) ↔ ((100 ≤ p ∧ p ≤ 9949) ∧ 1 ≤ iRem p 100 ∧ iRem p 100 ≤ 49)) := fun p hp => by
      rw [iDiv_pos hp.1 hp.2 (by decide) (by decide), iRem_pos hp.1 hp.2 (by decide) (by decide)]
      omega
    by_cases hp : 0 ≤ pw ∧ pw ≤ 2147483647
    · exact fwd pw hp
    · have n := c.1.1
      have z := iDiv_np (a := pw) (by omega)
      omega
  rcases c.1.2 with ⟨n, rfl, e⟩ | ⟨o, ⟨q, g, R, J⟩, e1⟩
  · rcases m with ⟨-, rfl, -⟩ | ⟨o', -⟩
    · rfl
    · exact absurd (ok.mpr o') n
  · rcases m with ⟨n, -⟩ | ⟨-, RR, e2⟩
    · exact absurd (ok.mp o) n
    · have fg := R1_f R
      have Ag := AP_f A fg
      have Sc := R1_sc I0 R
      have hdg : vw g 72 1 = vw h 1 0 := by rw [fg 72 1 (by decide) (by decide)]; exact hd.symm
      have k1 : vw h1 72 1 = vw h 1 0 := by rw [J.1.1 72 1 (by decide)]; exact hdg
      rw [k1] at RR
      have AR := RR.1.1
      -- the reference's reckoning, over the class's heap
      have RD : rkd (vw g) (vw h2) (vw h 1 0) := by
        obtain ⟨⟨a, b, c⟩, d, e⟩ := rkd_R RR
        have x : ∀ (c : Nat) j, 72 ≤ c → c ≤ 110 → vw h1 c j = vw g c j := fun c j u v => J.1.1 c j (by omega)
        have M : agM (vw g) (vw h1) := ⟨fun c j u v => x c j (by omega) (by omega), x 72 _ (by decide) (by decide), x 72 _ (by decide) (by decide), x 72 _ (by decide) (by decide)⟩
        refine ⟨⟨a.trans (x 72 19 (by decide) (by decide)), fun i => (b i).trans (x 87 i (by decide) (by decide)), fun i => (c i).trans (x 90 i (by decide) (by decide))⟩, fun i u v => ?_, fun i u v mc y0 y1 => ?_⟩
        · rw [d i u (by rw [x 72 19 (by decide) (by decide)]; exact v)]
          exact bI_c (mcn_m M i _)
        · have r := e i u (by rw [x 72 19 (by decide) (by decide)]; exact v) ((mcn_m M i _).mpr mc) (by rw [x 90 i (by decide) (by decide)]; exact y0) (by rw [x 90 i (by decide) (by decide)]; exact y1)
          exact ⟨r.1.trans (vG_m M _ i), r.2.trans (vF_m M _ i)⟩
      have hy := o.1
      have x2 : ∀ (c : Nat) j, c < 103 → c ≠ 72 → c ≠ 48 → vw h2 c j = vw g c j := fun c j u v z => (agR_x AR c j u v).trans (J.1.1 c j z)
      have y2 : ∀ j, j ≠ 38 → j ≠ 39 → vw h2 72 j = vw g 72 j := fun j u v => (agR_y AR u v).trans (J.1.1 72 j (by decide))
      have K := Ag.2.2.1
      have Bg := Ag.1.2.1
      have PE : ∀ b, 0 ≤ b → b < vw g 1 1 → (P66 (vw g) y b ↔ P298 (vw h2) y b) ∧ (P66 (vw g) y b → (E66 (vw g) q b ↔ E298 (vw h2) y b)) := fun b c0 c1 => by
        have g1 := Bg.2.2.2.2.2.2.1
        refine ⟨?_, fun _ => ?_⟩
        · unfold P66 P298
          rw [farm_j Bg]
          unfold mFarm mBody
          rw [y2 2 (by decide) (by decide), y2 32 (by decide) (by decide), ← K.1]
          simp only [x2 73 _ (by decide) (by decide) (by decide), x2 98 _ (by decide) (by decide) (by decide), x2 100 _ (by decide) (by decide) (by decide), K.2.1, K.2.2.2.1]
        · unfold E66 E298
          rw [err_e Ag Sc RD hy ⟨c0, by omega⟩]
      have en : (vw h2 72 2).toNat = (vw g 1 1).toNat := by rw [y2 2 (by decide) (by decide), ← Bg.1]
      have g0 := Bg.2.2.2.2.2.1
      have cP : nQ (P66 (vw g) y) (vw g 1 1).toNat = nQ (P298 (vw h2) y) (vw g 1 1).toNat := nQ_c _ (fun j a b => (PE j a (by omega)).1)
      have cW : nQ (fun b => P66 (vw g) y b ∧ E66 (vw g) q b) (vw g 1 1).toNat = nQ (fun b => P298 (vw h2) y b ∧ E298 (vw h2) y b) (vw g 1 1).toNat := nQ_c _ (fun j a b => by
        have p := PE j a (by omega)
        exact ⟨fun z => ⟨p.1.mp z.1, (p.2 z.1).mp z.2⟩, fun z => ⟨p.1.mpr z.1, (p.2 (p.1.mpr z.1)).mpr z.2⟩⟩)
      have cX : jX (P66 (vw g) y) (E66 (vw g) q) (vw g 1 1).toNat = jX (P298 (vw h2) y) (E298 (vw h2) y) (vw g 1 1).toNat := jX_c _ (fun j a b => PE j a (by omega))
      obtain ⟨-, j13, j14, j15, j16⟩ := J
      have n0 := nQ_b (P298 (vw h2) y) (vw g 1 1).toNat
      have xb := jX_b (P := P298 (vw h2) y) (E := E298 (vw h2) y) (vw g 1 1).toNat
      rw [e1, e2, en, j13, j14, j15, j16, cP, cW, cX]
      unfold aRt m298
      rw [uLk_e (by omega) (by omega)]
      rfl


-- ===== 82zyzah.rate: 6 texts =====
section
-- ===== the rate of errors =====
def P298 (V : vS) (y b : Int) : Prop := mFarm V b ∧ ∃ c, (0 ≤ c ∧ c < V 72 32) ∧ (V 98 c = b ∧ V 100 c = y)
def E298 (V : vS) (y b : Int) : Prop := 2 < mErr V b y
noncomputable def mUl (n x p w : Int) : Int := if w64 (100 * gSm (tCh (mWy n) n p) x n (n + 1).toNat) < w64 (w * pwF 100 n.toNat) then 1 else if w64 (100 * gSm (tCh (mWy n) n p) 0 x (x + 1).toNat) < w64 (w * pwF 100 n.toNat) then 2 else 0
noncomputable def m298 (V : vS) (y what pw : Int) (n : Nat) : Int := if what = 0 then nQ (P298 V y) n else if what = 1 then nQ (fun b => P298 V y b ∧ E298 V y b) n else mUl (min 8 (nQ (P298 V y) n)) (jX (P298 V y) (E298 V y) n) (iDiv pw 100) (iRem pw 100)
theorem l_298 {X : aX} {h : aH} {y what pw : Int} (S : wS h) (hn : 0 ≤ vw h 72 2 ∧ vw h 72 2 ≤ 150) (h32 : 0 ≤ vw h 72 32 ∧ vw h 72 32 ≤ 200) (hN : 0 ≤ vw h 72 19 ∧ vw h 72 19 ≤ 300) (hw : 0 ≤ what ∧ what ≤ 2) : ∀ (n : Nat) (x1 x2 x3 x4 x5 x6 x7 x8 : Int32) (u9 : Option Value) (k : Nat), x1.toInt = y → x2.toInt = what → x3.toInt = pw → x4.toInt = nQ (P298 (vw h) y) k → x5.toInt = nQ (fun b => P298 (vw h) y b ∧ E298 (vw h) y b) k → x6.toInt = min 8 (nQ (P298 (vw h) y) k) → x7.toInt = jX (P298 (vw h) y) (E298 (vw h) y) k → x8.toInt = (k : Int) → (k : Int) ≤ vw h 72 2 → Pt n X zM298 71 [some (.ref 72), some (.int x1), some (.int x2), some (.int x3), some (.int x4), some (.int x5), some (.int x6), some (.int x7), some (.int x8), u9] [] h (qI (fun r h' => h' = h ∧ r = m298 (vw h) y what pw (vw h 72 2).toNat)) := by
  intro n
  induction n with
  | zero => intros; exact pt_z
  | succ n ih =>
    intro x1 x2 x3 x4 x5 x6 x7 x8 u9 k h1 h2 h3 h4 h5 h6 h7 h8 hk
    have b1 := nQ_b (P298 (vw h) y) k
    have b2 := nQ_b (fun b => P298 (vw h) y b ∧ E298 (vw h) y b) k
    have b3 := jX_b (P := P298 (vw h) y) (E := E298 (vw h) y) k
    have skip : (k : Int) < vw h 72 2 → ¬ P298 (vw h) y (k : Nat) → ∀ (w8 : Int32) (u : Option Value), w8.toInt = w32 ((k : Int) + 1) → Pt n X zM298 71 [some (.ref 72), some (.int x1), some (.int x2), some (.int x3), some (.int x4), some (.int x5), some (.int x6), some (.int x7), some (.int w8), u] [] h (qI (fun r h' => h' = h ∧ r = m298 (vw h) y what pw (vw h 72 2).toNat)) := by
      intro e z w8 u g
      replace g := w_1 g (by omega) (by omega)
      refine ih x1 x2 x3 x4 x5 x6 x7 w8 u (k + 1) h1 h2 h3 ?_ ?_ ?_ ?_ (by omega) (by omega)
      · rw [nQ_f z, Int.add_zero]; exact h4
      · rw [nQ_f (P := fun b => P298 (vw h) y b ∧ E298 (vw h) y b) (fun w => z w.1), Int.add_zero]; exact h5
      · rw [nQ_f z, Int.add_zero]; exact h6
      · rw [jX_s, pI_f (fun w => z w.1.1), Int.add_zero]; exact h7
    have go : (k : Int) < vw h 72 2 → P298 (vw h) y (k : Nat) → ∀ (w4 w5 w6 w7 w8 : Int32) (u : Option Value), w4.toInt = w32 (nQ (P298 (vw h) y) k + 1) → w5.toInt = w32 (nQ (fun b => P298 (vw h) y b ∧ E298 (vw h) y b) k + bI (E298 (vw h) y (k : Nat))) → ((8 ≤ nQ (P298 (vw h) y) k ∧ w6 = x6 ∧ w7 = x7) ∨ (nQ (P298 (vw h) y) k < 8 ∧ w6.toInt = w32 (min 8 (nQ (P298 (vw h) y) k) + 1) ∧ w7.toInt = w32 (jX (P298 (vw h) y) (E298 (vw h) y) k + bI (E298 (vw h) y (k : Nat))))) → w8.toInt = w32 ((k : Int) + 1) → Pt n X zM298 71 [some (.ref 72), some (.int x1), some (.int x2), some (.int x3), some (.int w4), some (.int w5), some (.int w6), some (.int w7), some (.int w8), u] [] h (qI (fun r h' => h' = h ∧ r = m298 (vw h) y what pw (vw h 72 2).toNat)) := by
      intro e p w4 w5 w6 w7 w8 u g4 g5 t g
      replace g := w_1 g (by omega) (by omega)
      have bE := bI_b (E298 (vw h) y (k : Nat))
      rw [w32_id (by omega) (by omega)] at g4 g5
      have s4 : w4.toInt = nQ (P298 (vw h) y) (k + 1) := by rw [g4, nQ_t p]
      have s5 : w5.toInt = nQ (fun b => P298 (vw h) y b ∧ E298 (vw h) y b) (k + 1) := by
        rw [g5]
        by_cases z : E298 (vw h) y (k : Nat)
        · rw [bI_t z, nQ_t (P := fun b => P298 (vw h) y b ∧ E298 (vw h) y b) ⟨p, z⟩]
        · rw [bI_f z, nQ_f (P := fun b => P298 (vw h) y b ∧ E298 (vw h) y b) (fun w => z w.2)]
      refine ih x1 x2 x3 w4 w5 w6 w7 w8 u (k + 1) h1 h2 h3 s4 s5 ?_ ?_ (by omega) (by omega)
      · rw [nQ_t p]
        rcases t with ⟨ge, t6, -⟩ | ⟨lt, t6, -⟩
        · rw [t6, h6]
          omega
        · rw [t6, w32_id (by omega) (by omega)]
          omega
      · rcases t with ⟨ge, -, t7⟩ | ⟨lt, -, t7⟩
        · rw [t7, h7, jX_s, pI_f (fun w => by omega), Int.add_zero]
        · rw [t7, w32_id (by omega) (by omega), jX_s]
          by_cases z : E298 (vw h) y (k : Nat)
          · rw [bI_t z, pI_t ⟨⟨p, z⟩, lt⟩]
          · rw [bI_f z, pI_f (fun w => z w.1.2)]
    have pm : (0 ≤ min 8 (nQ (P298 (vw h) y) k) ∧ min 8 (nQ (P298 (vw h) y) k) ≤ 8) ∧ 0 ≤ jX (P298 (vw h) y) (E298 (vw h) y) k ∧ jX (P298 (vw h) y) (E298 (vw h) y) k ≤ min 8 (nQ (P298 (vw h) y) k) + 1 ∧ min 8 (nQ (P298 (vw h) y) k) ≤ min 8 (nQ (P298 (vw h) y) k) := ⟨by omega, b3.1, by omega, Int.le_refl _⟩
    have pm2 : (0 ≤ min 8 (nQ (P298 (vw h) y) k) ∧ min 8 (nQ (P298 (vw h) y) k) ≤ 8) ∧ (0 : Int) ≤ 0 ∧ 0 ≤ jX (P298 (vw h) y) (E298 (vw h) y) k + 1 ∧ jX (P298 (vw h) y) (E298 (vw h) y) k ≤ min 8 (nQ (P298 (vw h) y) k) := ⟨by omega, Int.le_refl _, by omega, b3.2⟩
    have p8 : min 8 (nQ (P298 (vw h) y) k) ≤ 1000 := by omega
    refine d298_71 S h1 h2 h3 h4 h5 h6 h7 h8 ⟨fun e => ?_, fun e => ⟨fun z w8 u g => skip e (fun w => z w.1) w8 u g, fun z => ⟨h32, fun z2 => ⟨hN, fun le => ?_, fun lt => ?_⟩, fun z2 w8 u g => skip e (fun w => z2 w.2) w8 u g⟩⟩⟩
    · have kn : (vw h 72 2).toNat = k := by omega
      rw [kn]
      refine ⟨fun w2 => ⟨p8, pm, fun a => ⟨pm2, fun b => ⟨rfl, ?_⟩, fun b => ⟨rfl, ?_⟩⟩, fun a => ⟨rfl, ?_⟩⟩, fun w2 => ⟨fun w0 => ⟨rfl, ?_⟩, fun w0 => ⟨rfl, ?_⟩⟩⟩
      · unfold m298 mUl
        rw [if_neg (by omega), if_neg (by omega), if_neg (by omega), if_neg (by omega)]
      · unfold m298 mUl
        rw [if_neg (by omega), if_neg (by omega), if_neg (by omega), if_pos b]
      · unfold m298 mUl
        rw [if_neg (by omega), if_neg (by omega), if_pos a]
      · unfold m298
        rw [if_neg w0, if_pos (by omega)]
      · unfold m298
        rw [if_pos w0]
    · have nE : ¬ E298 (vw h) y (k : Nat) := fun w => by unfold E298 at w; omega
      exact ⟨fun ge w4 w5 w8 u g4 g5 g8 => go e ⟨z, z2⟩ w4 w5 x6 x7 w8 u g4 (by rw [g5, bI_f nE]) (Or.inl ⟨ge, rfl, rfl⟩) g8, fun lt8 w4 w5 w6 w7 w8 u g4 g5 g6 g7 g8 => go e ⟨z, z2⟩ w4 w5 w6 w7 w8 u g4 (by rw [g5, bI_f nE]) (Or.inr ⟨lt8, g6, by rw [g7, bI_f nE]⟩) g8⟩
    · have yE : E298 (vw h) y (k : Nat) := lt
      exact ⟨fun ge w4 w5 w8 u g4 g5 g8 => go e ⟨z, z2⟩ w4 w5 x6 x7 w8 u g4 (by rw [g5, bI_t yE]) (Or.inl ⟨ge, rfl, rfl⟩) g8, fun lt8 w4 w5 w6 w7 w8 u g4 g5 g6 g7 g8 => go e ⟨z, z2⟩ w4 w5 w6 w7 w8 u g4 (by rw [g5, bI_t yE]) (Or.inr ⟨lt8, g6, by rw [g7, bI_t yE]⟩) g8⟩
def okRm (y w pw : Int) : Prop := (0 ≤ y ∧ y ≤ 9) ∧ (0 ≤ w ∧ w ≤ 2) ∧ (w = 2 → (100 ≤ pw ∧ pw ≤ 9949) ∧ 1 ≤ iRem pw 100 ∧ iRem pw 100 ≤ 49)
def R298 (V : vS) (y w pw r : Int) (W : vS) : Prop := (¬ okRm y w pw ∧ r = -1 ∧ W = V) ∨ (okRm y w pw ∧ R239 V (V 72 1) W ∧ r = m298 W y w pw (W 72 2).toNat)
theorem c_298 {n : Nat} {X : aX} {h : aH} {x1 x2 x3 : Int32} {a1 a2 a3 : Int} (S : wS h) (z1 : x1.toInt = a1) (z2 : x2.toInt = a2) (z3 : x3.toInt = a3) (hq : q239 (vw h)) (hn : 0 ≤ vw h 72 2 ∧ vw h 72 2 ≤ 150) : Pt n X zM298 0 [some (.ref 72), some (.int x1), some (.int x2), some (.int x3), none, none, none, none, none, none] [] h (qI (fun r h' => R298 (vw h) a1 a2 a3 r (vw h'))) := by
  have bad : ¬ okRm a1 a2 a3 → R298 (vw h) a1 a2 a3 (-1) (vw h) := fun z => Or.inl ⟨z, rfl, rfl⟩
  have run : okRm a1 a2 a3 → ∀ (g : aH), wS g ∧ R239 (vw h) (vw h 72 1) (vw g) → ∀ (w4 w5 w6 w7 w8 : Int32) (u : Option Value), w4.toInt = 0 → w5.toInt = 0 → w6.toInt = 0 → w7.toInt = 0 → w8.toInt = 0 → Pt n X zM298 71 [some (.ref 72), some (.int x1), some (.int x2), some (.int x3), some (.int w4), some (.int w5), some (.int w6), some (.int w7), some (.int w8), u] [] g (qI (fun r h' => R298 (vw h) a1 a2 a3 r (vw h'))) := by
    intro o g ⟨S2, R⟩ w4 w5 w6 w7 w8 u g4 g5 g6 g7 g8
    have A := R.1.1
    have e2 : vw g 72 2 = vw h 72 2 := agR_y A (by decide) (by decide)
    have e32 : vw g 72 32 = vw h 72 32 := agR_y A (by decide) (by decide)
    have e19 : vw g 72 19 = vw h 72 19 := agR_y A (by decide) (by decide)
    refine pt_q (l_298 S2 (by rw [e2]; exact hn) (by rw [e32]; exact hq.2.2.1) (by rw [e19]; exact hq.1) o.2.1 n x1 x2 x3 w4 w5 w6 w7 w8 u 0 z1 z2 z3 g4 g5 (by rw [g6]; rfl) g7 g8 (by rw [e2]; exact hn.1)) ?_
    rintro v h' ⟨x, rfl, rfl, r⟩
    exact ⟨x, rfl, Or.inr ⟨o, R, r⟩⟩
  exact pt_d (d298_0 S z1 z2 z3 ⟨fun e => bad (fun z => e z.1), fun e1 => ⟨fun e => bad (fun z => e z.2.1), fun e2 => ⟨fun e3 => ⟨hq, fun g R w4 w5 w6 w7 w8 u => run ⟨e1, e2, fun z => absurd z e3⟩ g R w4 w5 w6 w7 w8 u⟩, fun e3 => ⟨fun e4 => bad (fun z => e4 (z.2.2 e3).1), fun e4 => ⟨fun e5 => ⟨hq, fun g R w4 w5 w6 w7 w8 u => run ⟨e1, e2, fun _ => ⟨e4, e5⟩⟩ g R w4 w5 w6 w7 w8 u⟩, fun e5 => bad (fun z => e5 (z.2.2 e3).2)⟩⟩⟩⟩⟩)
theorem c_298w {n : Nat} {X : aX} {h : aH} {x1 x2 x3 : Int32} {a1 a2 a3 : Int} (S : wS h) (z1 : x1.toInt = a1) (z2 : x2.toInt = a2) (z3 : x3.toInt = a3) (I : IV h) : Pt n X zM298 0 [some (.ref 72), some (.int x1), some (.int x2), some (.int x3), none, none, none, none, none, none] [] h (qI (fun r h' => (0 ≤ vw h 72 2 ∧ vw h 72 2 ≤ 150 → R298 (vw h) a1 a2 a3 r (vw h')) ∧ IV h')) := by
  by_cases hn : 0 ≤ vw h 72 2 ∧ vw h 72 2 ≤ 150
  · refine pt_q (pt_and (c_298 S z1 z2 z3 I.2.2.2 hn) (wk_298 S z1 z2 z3 I)) ?_
    rintro v h' ⟨⟨x, ev, r⟩, ⟨x', -, -, -, I'⟩⟩
    exact ⟨x, ev, fun _ => r, I'⟩
  · refine pt_q (wk_298 S z1 z2 z3 I) ?_
    rintro v h' ⟨x', ev, -, -, I'⟩
    exact ⟨x', ev, fun z => absurd z hn, I'⟩
end
section
-- ===== the rate of errors =====
theorem iDiv_np {a : Int} (h : -2147483648 ≤ a ∧ a < 0) : iDiv a 100 ≤ 0 := by
  unfold iDiv
  have e1 : (Int32.ofInt a).toInt = a := Int32.toInt_ofInt_of_le (by omega) (by omega)
  have e2 : (Int32.ofInt 100).toInt = 100 := by decide
  have t := (tdiv_b (x := (Int32.ofInt a).toInt) (y := (Int32.ofInt 100).toInt) (by omega)).2 (by omega)
  rw [i_div (by omega) (by omega)]
  exact t.2
theorem jx_36 {h h1 h2 : aH} {y w pw r1 r2 : Int} (I0 : IV h) (A : AP (vw h)) (hd : vw h 1 0 = vw h 72 1) (c : R180 h y w pw r1 h1 ∧ IV h1) (m : (0 ≤ vw h1 72 2 ∧ vw h1 72 2 ≤ 150 → R298 (vw h1) y w pw r2 (vw h2)) ∧ IV h2) : (JSea (vw h2) ∧ JRk (vw h2)) ∧ r1 = r2 := by
  refine ⟨⟨JSea_IV m.2, rOK_IV m.2⟩, ?_⟩
  have fr : ∀ (c : Nat) j, c < 146 → c ≠ 42 → c ≠ 48 → vw h1 c j = vw h c j := by
    rcases c.1.2 with ⟨-, -, rfl⟩ | ⟨-, ⟨q, g, R, J⟩, -⟩
    · exact fun _ _ _ _ _ => rfl
    · exact fun c j u v x => (J.1.1 c j x).trans (R1_f R c j u v)
  have B := A.1.2.1
  have b1 := B.2.2.2.2.2.1
  have b2 := B.2.2.2.2.2.2.1
  have n2 : vw h1 72 2 = vw h 1 1 := by rw [fr 72 2 (by decide) (by decide) (by decide)]; exact B.1.symm
  have m := m.1 (by rw [n2]; exact ⟨b1, b2⟩)
  have ok : okRt y w pw ↔ okRm y w pw := by
    unfold okRt okRm
    refine and_congr_right (fun _ => and_congr_right (fun _ => imp_congr_right (fun _ => ?_)))
    have fwd : ∀ p : Int, (0 ≤ p ∧ p ≤ 2147483647) → (((1 ≤ iDiv p 100 ∧ iDiv p 100 ≤ 99) ∧ 1 ≤ iRem p 100 ∧ iRem p 100 ≤ 49) ↔ ((100 ≤ p ∧ p ≤ 9949) ∧ 1 ≤ iRem p 100 ∧ iRem p 100 ≤ 49)) := fun p hp => by
      rw [iDiv_pos hp.1 hp.2 (by decide) (by decide), iRem_pos hp.1 hp.2 (by decide) (by decide)]
      omega
    by_cases hp : 0 ≤ pw ∧ pw ≤ 2147483647
    · exact fwd pw hp
    · have n := c.1.1
      have z := iDiv_np (a := pw) (by omega)
      omega
  rcases c.1.2 with ⟨n, rfl, e⟩ | ⟨o, ⟨q, g, R, J⟩, e1⟩
  · rcases m with ⟨-, rfl, -⟩ | ⟨o', -⟩
    · rfl
    · exact absurd (ok.mpr o') n
  · rcases m with ⟨n, -⟩ | ⟨-, RR, e2⟩
    · exact absurd (ok.mp o) n
    · have fg := R1_f R
      have Ag := AP_f A fg
      have Sc := R1_sc I0 R
      have hdg : vw g 72 1 = vw h 1 0 := by rw [fg 72 1 (by decide) (by decide)]; exact hd.symm
      have k1 : vw h1 72 1 = vw h 1 0 := by rw [J.1.1 72 1 (by decide)]; exact hdg
      rw [k1] at RR
      have AR := RR.1.1
      -- the reference's reckoning, over the class's heap
      have RD : rkd (vw g) (vw h2) (vw h 1 0) := by
        obtain ⟨⟨a, b, c⟩, d, e⟩ := rkd_R RR
        have x : ∀ (c : Nat) j, 72 ≤ c → c ≤ 110 → vw h1 c j = vw g c j := fun c j u v => J.1.1 c j (by omega)
        have M : agM (vw g) (vw h1) := ⟨fun c j u v => x c j (by omega) (by omega), x 72 _ (by decide) (by decide), x 72 _ (by decide) (by decide), x 72 _ (by decide) (by decide)⟩
        refine ⟨⟨a.trans (x 72 19 (by decide) (by decide)), fun i => (b i).trans (x 87 i (by decide) (by decide)), fun i => (c i).trans (x 90 i (by decide) (by decide))⟩, fun i u v => ?_, fun i u v mc y0 y1 => ?_⟩
        · rw [d i u (by rw [x 72 19 (by decide) (by decide)]; exact v)]
          exact bI_c (mcn_m M i _)
        · have r := e i u (by rw [x 72 19 (by decide) (by decide)]; exact v) ((mcn_m M i _).mpr mc) (by rw [x 90 i (by decide) (by decide)]; exact y0) (by rw [x 90 i (by decide) (by decide)]; exact y1)
          exact ⟨r.1.trans (vG_m M _ i), r.2.trans (vF_m M _ i)⟩
      have hy := o.1
      have x2 : ∀ (c : Nat) j, c < 103 → c ≠ 72 → c ≠ 48 → vw h2 c j = vw g c j := fun c j u v z => (agR_x AR c j u v).trans (J.1.1 c j z)
      have y2 : ∀ j, j ≠ 38 → j ≠ 39 → vw h2 72 j = vw g 72 j := fun j u v => (agR_y AR u v).trans (J.1.1 72 j (by decide))
      have K := Ag.2.2.1
      have Bg := Ag.1.2.1
      have PE : ∀ b, 0 ≤ b → b < vw g 1 1 → (P66 (vw g) y b ↔ P298 (vw h2) y b) ∧ (P66 (vw g) y b → (E66 (vw g) q b ↔ E298 (vw h2) y b)) := fun b c0 c1 => by
        have g1 := Bg.2.2.2.2.2.2.1
        refine ⟨?_, fun _ => ?_⟩
        · unfold P66 P298
          rw [farm_j Bg]
          unfold mFarm mBody
          rw [y2 2 (by decide) (by decide), y2 32 (by decide) (by decide), ← K.1]
          simp only [x2 73 _ (by decide) (by decide) (by decide), x2 98 _ (by decide) (by decide) (by decide), x2 100 _ (by decide) (by decide) (by decide), K.2.1, K.2.2.2.1]
        · unfold E66 E298
          rw [err_e Ag Sc RD hy ⟨c0, by omega⟩]
      have en : (vw h2 72 2).toNat = (vw g 1 1).toNat := by rw [y2 2 (by decide) (by decide), ← Bg.1]
      have g0 := Bg.2.2.2.2.2.1
      have cP : nQ (P66 (vw g) y) (vw g 1 1).toNat = nQ (P298 (vw h2) y) (vw g 1 1).toNat := nQ_c _ (fun j a b => (PE j a (by omega)).1)
      have cW : nQ (fun b => P66 (vw g) y b ∧ E66 (vw g) q b) (vw g 1 1).toNat = nQ (fun b => P298 (vw h2) y b ∧ E298 (vw h2) y b) (vw g 1 1).toNat := nQ_c _ (fun j a b => by
        have p := PE j a (by omega)
        exact ⟨fun z => ⟨p.1.mp z.1, (p.2 z.1).mp z.2⟩, fun z => ⟨p.1.mpr z.1, (p.2 (p.1.mpr z.1)).mpr z.2⟩⟩)
      have cX : jX (P66 (vw g) y) (E66 (vw g) q) (vw g 1 1).toNat = jX (P298 (vw h2) y) (E298 (vw h2) y) (vw g 1 1).toNat := jX_c _ (fun j a b => PE j a (by omega))
      obtain ⟨-, j13, j14, j15, j16⟩ := J
      have n0 := nQ_b (P298 (vw h2) y) (vw g 1 1).toNat
      have xb := jX_b (P := P298 (vw h2) y) (E := E298 (vw h2) y) (vw g 1 1).toNat
      rw [e1, e2, en, j13, j14, j15, j16, cP, cW, cX]
      unfold aRt m298
      rw [uLk_e (by omega) (by omega)]
      rfl
end
section
-- ===== the draw =====
theorem ul_270 {X : aX} : ∀ n : Nat, (∀ (h0 h : aH) (x1 : Int32) (x2 : Int32) (x3 : Int32), wS h → hk h0 h → TV h → Pt n X zM270 0 [some (.ref 72), some (.int x1), some (.int x2), some (.int x3), none, none] [] h (qI (fun _ h' => wS h' ∧ hk h0 h' ∧ TV h'))) ∧
    (∀ (h0 h : aH) (x1 : Int32) (x2 : Int32) (x3 : Int32) (x4 : Int32) (x5 : Int32), wS h → hk h0 h → TV h → Pt n X zM270 6 [some (.ref 72), some (.int x1), some (.int x2), some (.int x3), some (.int x4), some (.int x5)] [] h (qI (fun _ h' => wS h' ∧ hk h0 h' ∧ TV h'))) := by
  intro n
  induction n with
  | zero => refine ⟨?_, ?_⟩ <;> (intros; exact pt_z)
  | succ n ih =>
    obtain ⟨ih270_0, ih270_6⟩ := ih
    refine ⟨?_, ?_⟩
    · intro h0 h x1 x2 x3 S G I
      obtain ⟨a1, z1⟩ : ∃ a : Int, x1.toInt = a := ⟨_, rfl⟩
      obtain ⟨a2, z2⟩ : ∃ a : Int, x2.toInt = a := ⟨_, rfl⟩
      obtain ⟨a3, z3⟩ : ∃ a : Int, x3.toInt = a := ⟨_, rfl⟩
      refine pt_iconst gx270_0 (fun v1001 h1001 => ?_)
      refine pt_d (pt_1 (fun n d => r_istore (L' := [some (.ref 72), some (.int x1), some (.int x2), some (.int x3), some (.int v1001), none]) gx270_1 rfl rfl) ?_)
      refine pt_d (pt_iconst gx270_3 (fun v1002 h1002 => ?_))
      refine pt_d (pt_1 (fun n d => r_istore (L' := [some (.ref 72), some (.int x1), some (.int x2), some (.int x3), some (.int v1001), some (.int v1002)]) gx270_4 rfl rfl) ?_)
      exact ih270_6 h0 h x1 x2 x3 v1001 v1002 S G I
    · intro h0 h x1 x2 x3 x4 x5 S G I
      obtain ⟨a1, z1⟩ : ∃ a : Int, x1.toInt = a := ⟨_, rfl⟩
      obtain ⟨a2, z2⟩ : ∃ a : Int, x2.toInt = a := ⟨_, rfl⟩
      obtain ⟨a3, z3⟩ : ∃ a : Int, x3.toInt = a := ⟨_, rfl⟩
      obtain ⟨a4, z4⟩ : ∃ a : Int, x4.toInt = a := ⟨_, rfl⟩
      obtain ⟨a5, z5⟩ : ∃ a : Int, x5.toInt = a := ⟨_, rfl⟩
      refine pt_1 (fun n d => r_iload gx270_6 rfl) ?_
      refine pt_d (pt_1 (fun n d => r_aloadn gx270_8 rfl) ?_)
      refine pt_d (pt_getI (B := 19) gx270_9 S (fun v1001 h1001 => ?_))
      refine pt_d (pt_icmp_ge gx270_12 z5 h1001 (fun e1002 => ?_) (fun e1002 => ?_))
      · skip
        refine pt_d (pt_1 (fun n d => r_iload gx270_78 rfl) ?_)
        exact pt_d (pt_iret gx270_80 ⟨_, rfl, S, G, I⟩)
      · skip
        refine pt_d (pt_1 (fun n d => r_aloadn gx270_15 rfl) ?_)
        refine pt_d (pt_getR gx270_16 S tr_72_40 ?_)
        refine pt_d (pt_1 (fun n d => r_iload gx270_19 rfl) ?_)
        refine pt_d (pt_zald (N' := 300) gx270_21 S tl_103 z5 (fun v1004 p1004 q1004 h1004 => ?_))
        refine pt_d (pt_if_eq gx270_22 h1004 (fun e1005 => ?_) (fun e1005 => ?_))
        · skip
          refine pt_d (pt_iinc (c := 1) gx270_72 rfl z5 (fun v1006 h1006 => ?_))
          show Pt _ _ _ _ [some (.ref 72), some (.int x1), some (.int x2), some (.int x3), some (.int x4), some (.int v1006)] [] _ _
          refine pt_d (pt_1 (fun n d => r_goto gx270_75) ?_)
          exact ih270_6 h0 h x1 x2 x3 x4 v1006 S G I
        · skip
          refine pt_d (pt_1 (fun n d => r_aloadn gx270_25 rfl) ?_)
          refine pt_d (pt_getR gx270_26 S tr_72_20 ?_)
          refine pt_d (pt_1 (fun n d => r_iload gx270_29 rfl) ?_)
          refine pt_d (pt_iald (N' := 300) gx270_31 S tl_87 z5 (fun v1008 p1008 q1008 h1008 => ?_))
          refine pt_d (pt_1 (fun n d => r_iloadn gx270_32 rfl) ?_)
          refine pt_d (pt_icmp_ne gx270_33 h1008 z1 (fun e1009 => ?_) (fun e1009 => ?_))
          · skip
            refine pt_d (pt_iinc (c := 1) gx270_72 rfl z5 (fun v1010 h1010 => ?_))
            show Pt _ _ _ _ [some (.ref 72), some (.int x1), some (.int x2), some (.int x3), some (.int x4), some (.int v1010)] [] _ _
            refine pt_d (pt_1 (fun n d => r_goto gx270_75) ?_)
            exact ih270_6 h0 h x1 x2 x3 x4 v1010 S G I
          · skip
            refine pt_d (pt_1 (fun n d => r_aloadn gx270_36 rfl) ?_)
            refine pt_d (pt_1 (fun n d => r_iload gx270_37 rfl) ?_)
            refine pt_d (pt_virt (as := [.int x5]) (r := []) gx270_39 rfl (show zmt[229]? = some zM229 from rfl) rfl rfl rfl rfl (c_229 S z5) (kqP (fun v1011 h1011 => ?_)))
            show Pt _ _ _ 42 _ [.int v1011] _ _
            refine pt_d (pt_1 (fun n d => r_iloadn gx270_42 rfl) ?_)
            refine pt_d (pt_icmp_ne gx270_43 h1011 z2 (fun e1012 => ?_) (fun e1012 => ?_))
            · skip
              refine pt_d (pt_iinc (c := 1) gx270_72 rfl z5 (fun v1013 h1013 => ?_))
              show Pt _ _ _ _ [some (.ref 72), some (.int x1), some (.int x2), some (.int x3), some (.int x4), some (.int v1013)] [] _ _
              refine pt_d (pt_1 (fun n d => r_goto gx270_75) ?_)
              exact ih270_6 h0 h x1 x2 x3 x4 v1013 S G I
            · skip
              refine pt_d (pt_1 (fun n d => r_iload gx270_46 rfl) ?_)
              refine pt_d (pt_1 (fun n d => r_iloadn gx270_48 rfl) ?_)
              refine pt_d (pt_if_eq gx270_49 z3 (fun e1014 => ?_) (fun e1014 => ?_))
              · skip
                refine pt_d (pt_1 (fun n d => r_aloadn gx270_62 rfl) ?_)
                refine pt_d (pt_getR gx270_63 S tr_72_41 ?_)
                refine pt_d (pt_1 (fun n d => r_iload gx270_66 rfl) ?_)
                refine pt_d (pt_iald (N' := 300) gx270_68 S tl_104 z5 (fun v1016 p1016 q1016 h1016 => ?_))
                refine pt_d (pt_iadd gx270_69 z4 h1016 (fun v1017 h1017 => ?_))
                refine pt_d (pt_1 (fun n d => r_istore (L' := [some (.ref 72), some (.int x1), some (.int x2), some (.int x3), some (.int v1017), some (.int x5)]) gx270_70 rfl rfl) ?_)
                refine pt_d (pt_iinc (c := 1) gx270_72 rfl z5 (fun v1018 h1018 => ?_))
                show Pt _ _ _ _ [some (.ref 72), some (.int x1), some (.int x2), some (.int x3), some (.int v1017), some (.int v1018)] [] _ _
                refine pt_d (pt_1 (fun n d => r_goto gx270_75) ?_)
                exact ih270_6 h0 h x1 x2 x3 v1017 v1018 S G I
              · skip
                refine pt_d (pt_1 (fun n d => r_aloadn gx270_52 rfl) ?_)
                refine pt_d (pt_getR gx270_53 S tr_72_42 ?_)
                refine pt_d (pt_1 (fun n d => r_iload gx270_56 rfl) ?_)
                refine pt_d (pt_iald (N' := 300) gx270_58 S tl_105 z5 (fun v1020 p1020 q1020 h1020 => ?_))
                refine pt_d (pt_1 (fun n d => r_goto gx270_59) ?_)
                refine pt_d (pt_iadd gx270_69 z4 h1020 (fun v1021 h1021 => ?_))
                refine pt_d (pt_1 (fun n d => r_istore (L' := [some (.ref 72), some (.int x1), some (.int x2), some (.int x3), some (.int v1021), some (.int x5)]) gx270_70 rfl rfl) ?_)
                refine pt_d (pt_iinc (c := 1) gx270_72 rfl z5 (fun v1022 h1022 => ?_))
                show Pt _ _ _ _ [some (.ref 72), some (.int x1), some (.int x2), some (.int x3), some (.int v1021), some (.int v1022)] [] _ _
                refine pt_d (pt_1 (fun n d => r_goto gx270_75) ?_)
                exact ih270_6 h0 h x1 x2 x3 v1021 v1022 S G I
theorem uk_270 {n : Nat} {X : aX} {h : aH} {x1 : Int32} {x2 : Int32} {x3 : Int32} {a1 : Int} {a2 : Int} {a3 : Int} (S : wS h) (z1 : x1.toInt = a1) (z2 : x2.toInt = a2) (z3 : x3.toInt = a3) (I : TV h) : Pt n X zM270 0 [some (.ref 72), some (.int x1), some (.int x2), some (.int x3), none, none] [] h (qI (fun _ h' => wS h' ∧ hk h h' ∧ TV h')) := (ul_270 n).1 h h x1 x2 x3 S (hk_r h) I
theorem ul_271 {X : aX} : ∀ n : Nat, (∀ (h0 h : aH) (x1 : Int32) (x2 : Int32), wS h → hk h0 h → TV h → Pt n X zM271 0 [some (.ref 72), some (.int x1), some (.int x2), none, none] [] h (qI (fun _ h' => wS h' ∧ hk h0 h' ∧ TV h'))) := by
  intro n
  induction n with
  | zero => refine ?_ <;> (intros; exact pt_z)
  | succ n ih =>
    have ih271_0 := ih
    refine ?_
    · intro h0 h x1 x2 S G I
      obtain ⟨a1, z1⟩ : ∃ a : Int, x1.toInt = a := ⟨_, rfl⟩
      obtain ⟨a2, z2⟩ : ∃ a : Int, x2.toInt = a := ⟨_, rfl⟩
      refine pt_1 (fun n d => r_aloadn gx271_0 rfl) ?_
      refine pt_d (pt_1 (fun n d => r_iloadn gx271_1 rfl) ?_)
      refine pt_d (pt_1 (fun n d => r_iloadn gx271_2 rfl) ?_)
      refine pt_d (pt_iconst gx271_3 (fun v1001 h1001 => ?_))
      refine pt_d (pt_virt (as := [.int x1, .int x2, .int v1001]) (r := []) gx271_4 rfl (show zmt[270]? = some zM270 from rfl) rfl rfl rfl rfl (uk_270 S z1 z2 h1001 I) (kqI (fun v1002 y1002 h_1002 h1002 P1002 => ?_)))
      have S1002 := P1002.1
      have G1002 := hk_t G P1002.2.1
      have I1002 := P1002.2.2
      show Pt _ _ _ 7 _ [.int v1002] _ _
      refine pt_d (pt_1 (fun n d => r_istoren (L' := [some (.ref 72), some (.int x1), some (.int x2), some (.int v1002), none]) gx271_7 rfl rfl) ?_)
      refine pt_d (pt_1 (fun n d => r_aloadn gx271_8 rfl) ?_)
      refine pt_d (pt_1 (fun n d => r_iloadn gx271_9 rfl) ?_)
      refine pt_d (pt_1 (fun n d => r_iloadn gx271_10 rfl) ?_)
      refine pt_d (pt_iconst gx271_11 (fun v1003 h1003 => ?_))
      refine pt_d (pt_virt (as := [.int x1, .int x2, .int v1003]) (r := []) gx271_12 rfl (show zmt[270]? = some zM270 from rfl) rfl rfl rfl rfl (uk_270 S1002 z1 z2 h1003 I1002) (kqI (fun v1004 y1004 h_1004 h1004 P1004 => ?_)))
      have S1004 := P1004.1
      have G1004 := hk_t G1002 P1004.2.1
      have I1004 := P1004.2.2
      show Pt _ _ _ 15 _ [.int v1004] _ _
      refine pt_d (pt_1 (fun n d => r_istore (L' := [some (.ref 72), some (.int x1), some (.int x2), some (.int v1002), some (.int v1004)]) gx271_15 rfl rfl) ?_)
      refine pt_d (pt_1 (fun n d => r_iload gx271_17 rfl) ?_)
      refine pt_d (pt_if_ne gx271_19 h1004 (fun e1005 => ?_) (fun e1005 => ?_))
      · skip
        refine pt_d (pt_sipush gx271_34 (fun v1006 h1006 => ?_))
        refine pt_d (pt_bipush gx271_37 (fun v1007 h1007 => ?_))
        refine pt_d (pt_1 (fun n d => r_iloadn gx271_39 rfl) ?_)
        refine pt_d (pt_1 (fun n d => r_iload gx271_40 rfl) ?_)
        refine pt_d (pt_isub gx271_42 h1002 h1004 (fun v1008 h1008 => ?_))
        refine pt_d (pt_imul gx271_43 h1007 h1008 (fun v1009 h1009 => ?_))
        refine pt_d (pt_1 (fun n d => r_iload gx271_44 rfl) ?_)
        refine pt_d (pt_idiv gx271_46 h1009 h1004 (fun v1010 h1010 => ?_))
        refine pt_d (pt_stat (as := [.int v1006, .int v1010]) (r := []) gx271_47 rfl (show zmt[211]? = some zM211 from rfl) rfl rfl rfl rfl (c_211 S1004 h1006 h1010) (kqP (fun v1011 h1011 => ?_)))
        show Pt _ _ _ 50 _ [.int v1011] _ _
        exact pt_d (pt_iret gx271_50 ⟨_, rfl, S1004, G1004, I1004⟩)
      · skip
        refine pt_d (pt_1 (fun n d => r_iloadn gx271_22 rfl) ?_)
        refine pt_d (pt_if_ne gx271_23 h1002 (fun e1012 => ?_) (fun e1012 => ?_))
        · skip
          refine pt_d (pt_sipush gx271_30 (fun v1013 h1013 => ?_))
          exact pt_d (pt_iret gx271_33 ⟨_, rfl, S1004, G1004, I1004⟩)
        · skip
          refine pt_d (pt_iconst gx271_26 (fun v1014 h1014 => ?_))
          refine pt_d (pt_1 (fun n d => r_goto gx271_27) ?_)
          exact pt_d (pt_iret gx271_33 ⟨_, rfl, S1004, G1004, I1004⟩)
theorem uk_271 {n : Nat} {X : aX} {h : aH} {x1 : Int32} {x2 : Int32} {a1 : Int} {a2 : Int} (S : wS h) (z1 : x1.toInt = a1) (z2 : x2.toInt = a2) (I : TV h) : Pt n X zM271 0 [some (.ref 72), some (.int x1), some (.int x2), none, none] [] h (qI (fun _ h' => wS h' ∧ hk h h' ∧ TV h')) := (ul_271 n) h h x1 x2 S (hk_r h) I
theorem ul_293 {X : aX} : ∀ n : Nat, (∀ (h0 h : aH) (x1 : Int32) (x2 : Int32), wS h → hk h0 h → TV h → Pt n X zM293 0 [some (.ref 72), some (.int x1), some (.int x2)] [] h (qI (fun _ h' => wS h' ∧ hk h0 h' ∧ TV h'))) := by
  intro n
  induction n with
  | zero => refine ?_ <;> (intros; exact pt_z)
  | succ n ih =>
    have ih293_0 := ih
    refine ?_
    · intro h0 h x1 x2 S G I
      obtain ⟨a1, z1⟩ : ∃ a : Int, x1.toInt = a := ⟨_, rfl⟩
      obtain ⟨a2, z2⟩ : ∃ a : Int, x2.toInt = a := ⟨_, rfl⟩
      refine pt_1 (fun n d => r_iloadn gx293_0 rfl) ?_
      refine pt_d (pt_if_ne gx293_1 z2 (fun e1001 => ?_) (fun e1001 => ?_))
      · skip
        refine pt_d (pt_1 (fun n d => r_aloadn gx293_8 rfl) ?_)
        refine pt_d (pt_1 (fun n d => r_iloadn gx293_9 rfl) ?_)
        refine pt_d (pt_1 (fun n d => r_iloadn gx293_10 rfl) ?_)
        refine pt_d (pt_iconst gx293_11 (fun v1002 h1002 => ?_))
        refine pt_d (pt_isub gx293_12 z2 h1002 (fun v1003 h1003 => ?_))
        refine pt_d (pt_virt (as := [.int x1, .int v1003]) (r := []) gx293_13 rfl (show zmt[271]? = some zM271 from rfl) rfl rfl rfl rfl (uk_271 S z1 h1003 I) (kqI (fun v1004 y1004 h_1004 h1004 P1004 => ?_)))
        have S1004 := P1004.1
        have G1004 := hk_t G P1004.2.1
        have I1004 := P1004.2.2
        show Pt _ _ _ 16 _ [.int v1004] _ _
        exact pt_d (pt_iret gx293_16 ⟨_, rfl, S1004, G1004, I1004⟩)
      · skip
        refine pt_d (pt_iconst gx293_4 (fun v1005 h1005 => ?_))
        refine pt_d (pt_1 (fun n d => r_goto gx293_5) ?_)
        exact pt_d (pt_iret gx293_16 ⟨_, rfl, S, G, I⟩)
theorem uk_293 {n : Nat} {X : aX} {h : aH} {x1 : Int32} {x2 : Int32} {a1 : Int} {a2 : Int} (S : wS h) (z1 : x1.toInt = a1) (z2 : x2.toInt = a2) (I : TV h) : Pt n X zM293 0 [some (.ref 72), some (.int x1), some (.int x2)] [] h (qI (fun _ h' => wS h' ∧ hk h h' ∧ TV h')) := (ul_293 n) h h x1 x2 S (hk_r h) I
end
section
-- ===== the draw =====
theorem R1_o {h h' : aH} {y k : Int} {q : Nat} (R : R1 h y k q h') : ∀ (c : Nat) j, (c < q ∨ q + 7 < c) → (c ≠ 42 ∨ j ≠ y) → vw h' c j = vw h c j := fun c j z w => by
  obtain ⟨⟨hq, K, -, D⟩, R⟩ := R
  rcases R with ⟨-, -, -, rfl⟩ | ⟨U, R97', ⟨L, U2, U42⟩, F⟩
  · rfl
  · obtain ⟨sc, fr, v4⟩ := scK_b hq R97' U2
    rw [fr c j z]
    rcases F with ⟨-, rfl⟩ | ⟨-, -, f⟩
    · rfl
    · exact f c j (by omega) w
theorem R1_42 {h h' : aH} {y k : Int} {q : Nat} (R : R1 h y k q h') : vw h' 42 y = (q : Int) := by
  obtain ⟨⟨hq, K, -, D⟩, R⟩ := R
  rcases R with ⟨e, -, -, rfl⟩ | ⟨U, R97', ⟨L, U2, U42⟩, F⟩
  · exact e
  · obtain ⟨sc, fr, v4⟩ := scK_b hq R97' U2
    rw [fr 42 y (by omega)]
    exact U42
theorem IV_v {h h' : aH} (I : IV h) (K : hk h h') (e : ∀ (c : Nat) j, c ≠ 48 → c ≠ 53 → c ≠ 54 → vw h' c j = vw h c j) : IV h' :=
  IV_w I K (fun c j z => e c j (by omega) (by omega) (by omega)) (fun j => e 42 j (by decide) (by decide) (by decide)) (fun c j z => e c j (by omega) (by omega) (by omega)) (fun c j z z' => e c j (by omega) (by omega) (by omega)) ⟨e 72 _ (by decide) (by decide) (by decide), e 72 _ (by decide) (by decide) (by decide), e 72 _ (by decide) (by decide) (by decide), e 72 _ (by decide) (by decide) (by decide), e 72 _ (by decide) (by decide) (by decide)⟩
theorem R1_PR {h h' : aH} {y k : Int} {q : Nat} (I : IV h) (R : R1 h y k q h') : slk (vw h') q := by
  have hy := R.1.2.2.1
  exact (R1_k ⟨hy.1, by omega⟩ (p1_any I y) (by
    by_cases z : vw h 42 y = (q : Int)
    · exact Or.inl (hn_IV I q ⟨y, ⟨hy.1, by omega⟩, z.symm⟩)
    · exact Or.inr z) R).1
def P62 (V : vS) (q : Nat) (land b : Int) : Prop := (cFarm V b ∧ V 3 b = land) ∧ V (q + 7) b ≠ -1
def R62 (h : aH) (land y : Int) (h' : aH) : Prop := ∃ q g, R1 h y (vw h 1 0) q g ∧ (vw h' 48 12 = nQ (P62 (vw g) q land) (vw g 1 1).toNat ∧ IV h')

theorem d62_0 {n : Nat} {X : aX} {h : aH} {P : aH → Prop} {x1 x2 : Int32} {a1 a2 : Int} (S : wS h) (z1 : x1.toInt = a1) (z2 : x2.toInt = a2) (H : ((p1 h a2) ∧ ∀ (q4 : Nat) (h_4 : aH), (wS h_4 ∧ R1 h a2 (vw h 1 0) q4 h_4) → ∀ h_6 : aH, wS h_6 → vw h_6 = up (vw h_4) 48 12 0 → hk h_4 h_6 → (∀ (w4 : Int32), w4.toInt = 0 → Pt n X zM62 24 [some (.ref 48), some (.int x1), some (.int x2), some (.ref q4), some (.int w4)] [] h_6 (qN P)))) : Pt (n + 1) X zM62 0 [some (.ref 48), some (.int x1), some (.int x2), none, none] [] h (qN P) := by
  refine pt_1 (fun n d => r_aloadn gx62_0 rfl) ?_
  refine pt_d (pt_getR gx62_1 S tr_48_2 ?_)
  refine pt_d (pt_1 (fun n d => r_iloadn gx62_4 rfl) ?_)
  refine pt_d (pt_1 (fun n d => r_aloadn gx62_5 rfl) ?_)
  refine pt_d (pt_getR gx62_6 S tr_48_0 ?_)
  refine pt_d (pt_getI (B := 0) gx62_9 S (fun v3 h3 => ?_))
  obtain ⟨pr4, H⟩ := H
  refine pt_d (pt_virt (as := [.int x2, .int v3]) (r := []) gx62_12 rfl (show zmt[1]? = some zM1 from rfl) rfl rfl rfl rfl (c_1 S z2 h3 pr4) (kqR (fun q4 h_4 P4 => ?_)))
  have S4 := P4.1
  have H := H q4 h_4 P4
  show Pt _ _ _ 15 _ [.ref q4] _ _
  refine pt_d (pt_1 (fun n d => r_astoren (L' := [some (.ref 48), some (.int x1), some (.int x2), some (.ref q4), none]) gx62_15 rfl rfl) ?_)
  refine pt_d (pt_1 (fun n d => r_aloadn gx62_16 rfl) ?_)
  refine pt_d (pt_iconst gx62_17 (fun v5 h5 => ?_))
  refine pt_d (pt_putIh (B := 12) gx62_18 S4 h5 (fun h_6 S6 e6 K6 => ?_))
  refine pt_d (pt_iconst gx62_21 (fun v7 h7 => ?_))
  refine pt_d (pt_1 (fun n d => r_istore (L' := [some (.ref 48), some (.int x1), some (.int x2), some (.ref q4), some (.int v7)]) gx62_22 rfl rfl) ?_)
  have H := H h_6 S6 (by rw [e6]) K6
  exact H v7 h7
theorem d62_24 {n : Nat} {X : aX} {h : aH} {P : aH → Prop} {x1 x2 x4 : Int32} {a1 a2 a4 : Int} {q3 : Nat} (S : wS h) (z1 : x1.toInt = a1) (z2 : x2.toInt = a2) (z4 : x4.toInt = a4) (H : ((vw h 1 1 ≤ a4 → P h) ∧ (a4 < vw h 1 1 → ((¬ (cFarm (vw h) a4 ∧ (vw h) 3 a4 = a1) → (∀ (w4 : Int32), w4.toInt = w32 (a4 + 1) → Pt n X zM62 24 [some (.ref 48), some (.int x1), some (.int x2), some (.ref q3), some (.int w4)] [] h (qN P))) ∧ ((cFarm (vw h) a4 ∧ (vw h) 3 a4 = a1) → ((vw h) q3 12 = (((q3 + 7) : Nat) : Int) ∧ (0 ≤ a4 → ((vw h (q3 + 7) a4 = (-1) → (∀ (w4 : Int32), w4.toInt = w32 (a4 + 1) → Pt n X zM62 24 [some (.ref 48), some (.int x1), some (.int x2), some (.ref q3), some (.int w4)] [] h (qN P))) ∧ (vw h (q3 + 7) a4 ≠ (-1) → (0 ≤ vw h 48 12 → vw h 48 12 < 150 → ((a2 ≠ 0 → ∀ h_15 : aH, wS h_15 → vw h_15 = up (vw h) 53 (vw h 48 12) a4 → hk h h_15 → ((p1 h_15 (w32 (a2 - 1))) ∧ ∀ (q24 : Nat) (h_24 : aH), (wS h_24 ∧ R1 h_15 (w32 (a2 - 1)) (vw h 1 0) q24 h_24) → ((PR102 (vw h_24) q24) ∧ ∀ h_30 : aH, wS h_30 → vw h_30 = up (up (vw h_24) 54 (vw h 48 12) (cErr (vw h_24) q24 a4)) 48 12 (w32 ((vw h_24 48 12) + 1)) → hk h_24 h_30 → (∀ (w4 : Int32), w4.toInt = w32 (a4 + 1) → Pt n X zM62 24 [some (.ref 48), some (.int x1), some (.int x2), some (.ref q3), some (.int w4)] [] h_30 (qN P))))) ∧ (a2 = 0 → ∀ h_37 : aH, wS h_37 → vw h_37 = up (up (up (vw h) 53 (vw h 48 12) a4) 54 (vw h 48 12) 0) 48 12 (w32 ((vw h 48 12) + 1)) → hk h h_37 → (∀ (w4 : Int32), w4.toInt = w32 (a4 + 1) → Pt n X zM62 24 [some (.ref 48), some (.int x1), some (.int x2), some (.ref q3), some (.int w4)] [] h_37 (qN P)))))))))))))) : Pt (n + 1) X zM62 24 [some (.ref 48), some (.int x1), some (.int x2), some (.ref q3), some (.int x4)] [] h (qN P) := by
  refine pt_1 (fun n d => r_iload gx62_24 rfl) ?_
  refine pt_d (pt_1 (fun n d => r_aloadn gx62_26 rfl) ?_)
  refine pt_d (pt_getR gx62_27 S tr_48_0 ?_)
  refine pt_d (pt_getI (B := 1) gx62_30 S (fun v2 h2 => ?_))
  refine pt_d (pt_icmp_ge gx62_33 z4 h2 (fun e3 => ?_) (fun e3 => ?_))
  · have H := H.1 e3
    exact pt_d (pt_vret gx62_126 ⟨rfl, H⟩)
  · have H := H.2 e3
    refine pt_d (pt_1 (fun n d => r_aloadn gx62_36 rfl) ?_)
    refine pt_d (pt_getR gx62_37 S tr_48_0 ?_)
    refine pt_d (pt_1 (fun n d => r_iload gx62_40 rfl) ?_)
    refine pt_d (pt_1 (fun n d => r_iloadn gx62_42 rfl) ?_)
    refine pt_d (pt_virt (as := [.int x4, .int x1]) (r := []) gx62_43 rfl (show zmt[76]? = some zM76 from rfl) rfl rfl rfl rfl (c_76 S z4 z1) (kqP (fun v5 h5 => ?_)))
    show Pt _ _ _ 46 _ [.int v5] _ _
    refine pt_d (pt_ifB_eq gx62_46 h5 (fun e6 => ?_) (fun e6 => ?_))
    · have H := H.1 e6
      refine pt_d (pt_iinc (c := 1) gx62_120 rfl z4 (fun v7 h7 => ?_))
      show Pt _ _ _ _ [some (.ref 48), some (.int x1), some (.int x2), some (.ref q3), some (.int v7)] [] _ _
      refine pt_d (pt_1 (fun n d => r_goto gx62_123) ?_)
      exact H v7 h7
    · have H := H.2 e6
      refine pt_d (pt_1 (fun n d => r_aloadn gx62_49 rfl) ?_)
      obtain ⟨pr8, H⟩ := H
      refine pt_d (pt_getK (B := 12) gx62_50 S (pr8) ?_)
      refine pt_d (pt_1 (fun n d => r_iload gx62_53 rfl) ?_)
      refine pt_d (pt_ialdD gx62_55 z4 (fun v9 p9 h9 => ?_))
      have H := H p9
      refine pt_d (pt_iconst gx62_56 (fun v10 h10 => ?_))
      refine pt_d (pt_icmp_eq gx62_57 h9 h10 (fun e11 => ?_) (fun e11 => ?_))
      · have H := H.1 e11
        refine pt_d (pt_iinc (c := 1) gx62_120 rfl z4 (fun v12 h12 => ?_))
        show Pt _ _ _ _ [some (.ref 48), some (.int x1), some (.int x2), some (.ref q3), some (.int v12)] [] _ _
        refine pt_d (pt_1 (fun n d => r_goto gx62_123) ?_)
        exact H v12 h12
      · have H := H.2 e11
        refine pt_d (pt_1 (fun n d => r_aloadn gx62_60 rfl) ?_)
        refine pt_d (pt_getR gx62_61 S tr_48_10 ?_)
        refine pt_d (pt_1 (fun n d => r_aloadn gx62_64 rfl) ?_)
        refine pt_d (pt_getI (B := 12) gx62_65 S (fun v14 h14 => ?_))
        refine pt_d (pt_1 (fun n d => r_iload gx62_68 rfl) ?_)
        refine pt_d (pt_iasth (N' := 150) gx62_70 S tl_53 h14 z4 (fun h_15 S15 p15 q15 e15 K15 => ?_))
        have H := H p15 q15
        refine pt_d (pt_1 (fun n d => r_aloadn gx62_71 rfl) ?_)
        refine pt_d (pt_getR gx62_72 S15 tr_48_11 ?_)
        refine pt_d (pt_1 (fun n d => r_aloadn gx62_75 rfl) ?_)
        refine pt_d (pt_getI (B := 12) gx62_76 S15 (fun v17 h17 => ?_))
        have h17 : v17.toInt = vw h 48 12 := by rw [h17, e15, up_c (by decide)]
        refine pt_d (pt_1 (fun n d => r_iloadn gx62_79 rfl) ?_)
        refine pt_d (pt_if_ne gx62_80 z2 (fun e18 => ?_) (fun e18 => ?_))
        · have H := H.1 e18
          refine pt_d (pt_1 (fun n d => r_aloadn gx62_87 rfl) ?_)
          refine pt_d (pt_getR gx62_88 S15 tr_48_2 ?_)
          refine pt_d (pt_1 (fun n d => r_iloadn gx62_91 rfl) ?_)
          refine pt_d (pt_iconst gx62_92 (fun v20 h20 => ?_))
          refine pt_d (pt_isub gx62_93 z2 h20 (fun v21 h21 => ?_))
          refine pt_d (pt_1 (fun n d => r_aloadn gx62_94 rfl) ?_)
          refine pt_d (pt_getR gx62_95 S15 tr_48_0 ?_)
          refine pt_d (pt_getI (B := 0) gx62_98 S15 (fun v23 h23 => ?_))
          have h23 : v23.toInt = vw h 1 0 := by rw [h23, e15, up_c (by decide)]
          have H := H h_15 S15 (by rw [e15]) K15
          obtain ⟨pr24, H⟩ := H
          refine pt_d (pt_virt (as := [.int v21, .int v23]) (r := [.int v17, .ref 54]) gx62_101 rfl (show zmt[1]? = some zM1 from rfl) rfl rfl rfl rfl (c_1 S15 h21 h23 pr24) (kqR (fun q24 h_24 P24 => ?_)))
          have S24 := P24.1
          have H := H q24 h_24 P24
          show Pt _ _ _ 104 _ [.ref q24, .int v17, .ref 54] _ _
          refine pt_d (pt_1 (fun n d => r_iload gx62_104 rfl) ?_)
          obtain ⟨pr25, H⟩ := H
          refine pt_d (pt_virt (as := [.int x4]) (r := [.int v17, .ref 54]) gx62_106 rfl (show zmt[102]? = some zM102 from rfl) rfl rfl rfl rfl (c_102 S24 z4 pr25) (kqP (fun v25 h25 => ?_)))
          show Pt _ _ _ 109 _ [.int v25, .int v17, .ref 54] _ _
          refine pt_d (pt_iasth (N' := 150) gx62_109 S24 tl_54 h17 h25 (fun h_26 S26 p26 q26 e26 K26 => ?_))
          refine pt_d (pt_1 (fun n d => r_aloadn gx62_110 rfl) ?_)
          refine pt_d (pt_1 (fun n d => r_dup gx62_111 rfl) ?_)
          refine pt_d (pt_getI (B := 12) gx62_112 S26 (fun v27 h27 => ?_))
          have h27 : v27.toInt = vw h_24 48 12 := by rw [h27, e26, up_c (by decide)]
          refine pt_d (pt_iconst gx62_115 (fun v28 h28 => ?_))
          refine pt_d (pt_iadd gx62_116 h27 h28 (fun v29 h29 => ?_))
          refine pt_d (pt_putIh (B := 12) gx62_117 S26 h29 (fun h_30 S30 e30 K30 => ?_))
          refine pt_d (pt_iinc (c := 1) gx62_120 rfl z4 (fun v31 h31 => ?_))
          show Pt _ _ _ _ [some (.ref 48), some (.int x1), some (.int x2), some (.ref q3), some (.int v31)] [] _ _
          refine pt_d (pt_1 (fun n d => r_goto gx62_123) ?_)
          have H := H h_30 S30 (by rw [e30, e26]) (hk_t K26 K30)
          exact H v31 h31
        · have H := H.2 e18
          refine pt_d (pt_iconst gx62_83 (fun v32 h32 => ?_))
          refine pt_d (pt_1 (fun n d => r_goto gx62_84) ?_)
          refine pt_d (pt_iasth (N' := 150) gx62_109 S15 tl_54 h17 h32 (fun h_33 S33 p33 q33 e33 K33 => ?_))
          refine pt_d (pt_1 (fun n d => r_aloadn gx62_110 rfl) ?_)
          refine pt_d (pt_1 (fun n d => r_dup gx62_111 rfl) ?_)
          refine pt_d (pt_getI (B := 12) gx62_112 S33 (fun v34 h34 => ?_))
          have h34 : v34.toInt = vw h 48 12 := by rw [h34, e33, up_c (by decide), e15, up_c (by decide)]
          refine pt_d (pt_iconst gx62_115 (fun v35 h35 => ?_))
          refine pt_d (pt_iadd gx62_116 h34 h35 (fun v36 h36 => ?_))
          refine pt_d (pt_putIh (B := 12) gx62_117 S33 h36 (fun h_37 S37 e37 K37 => ?_))
          refine pt_d (pt_iinc (c := 1) gx62_120 rfl z4 (fun v38 h38 => ?_))
          show Pt _ _ _ _ [some (.ref 48), some (.int x1), some (.int x2), some (.ref q3), some (.int v38)] [] _ _
          refine pt_d (pt_1 (fun n d => r_goto gx62_123) ?_)
          have H := H h_37 S37 (by rw [e37, e33, e15]) (hk_t (hk_t K15 K33) K37)
          exact H v38 h38
theorem l_62 {X : aX} {hb : aH} {q : Nat} {land y : Int} (hy : 0 ≤ y ∧ y ≤ 9) (hn : 0 ≤ vw hb 1 1 ∧ vw hb 1 1 ≤ 150) : ∀ (n : Nat) (h : aH) (x1 x2 x4 : Int32) (k : Nat), wS h → IV h → x1.toInt = land → x2.toInt = y → x4.toInt = (k : Int) → (k : Int) ≤ vw hb 1 1 → (∀ (c : Nat) j, c < 146 → c ≠ 42 → c ≠ 48 → c ≠ 53 → c ≠ 54 → vw h c j = vw hb c j) → vw h 42 y = (q : Int) → (∀ j, vw h (q + 7) j = vw hb (q + 7) j) → vw h 48 12 = nQ (P62 (vw hb) q land) k → Pt n X zM62 24 [some (.ref 48), some (.int x1), some (.int x2), some (.ref q), some (.int x4)] [] h (qN (fun h' => wS h' ∧ vw h' 48 12 = nQ (P62 (vw hb) q land) (vw hb 1 1).toNat ∧ IV h')) := by
  intro n
  induction n with
  | zero => intros; exact pt_z
  | succ n ih =>
    intro h x1 x2 x4 k S I h1 h2 h4 hk' F f42 f7 f12
    have n1 := F 1 1 (by decide) (by decide) (by decide) (by decide) (by decide)
    have cf : (cFarm (vw h) (k : Nat) ∧ vw h 3 (k : Nat) = land) ↔ (cFarm (vw hb) (k : Nat) ∧ vw hb 3 (k : Nat) = land) := by
      unfold cFarm cBody
      rw [n1, F 2 _ (by decide) (by decide) (by decide) (by decide) (by decide), F 3 _ (by decide) (by decide) (by decide) (by decide) (by decide)]
    have sl := (I.2.1 y hy.1 hy.2 q f42).2.1
    have hq := (I.2.1 y hy.1 hy.2 q f42).1
    have b := nQ_b (P62 (vw hb) q land) k
    have skip : (k : Int) < vw h 1 1 → ¬ P62 (vw hb) q land (k : Nat) → ∀ w4 : Int32, w4.toInt = w32 ((k : Int) + 1) → Pt n X zM62 24 [some (.ref 48), some (.int x1), some (.int x2), some (.ref q), some (.int w4)] [] h (qN (fun h' => wS h' ∧ vw h' 48 12 = nQ (P62 (vw hb) q land) (vw hb 1 1).toNat ∧ IV h')) := by
      intro e z w4 g
      replace g := w_1 g (by omega) (by omega)
      refine ih h x1 x2 w4 (k + 1) S I h1 h2 (by omega) (by omega) F f42 f7 ?_
      rw [nQ_f z, Int.add_zero]
      exact f12
    have go : (k : Int) < vw h 1 1 → P62 (vw hb) q land (k : Nat) → ∀ (g : aH) (w4 : Int32), wS g → IV g → (∀ (c : Nat) j, c < 146 → c ≠ 42 → c ≠ 48 → c ≠ 53 → c ≠ 54 → vw g c j = vw h c j) → vw g 42 y = (q : Int) → (∀ j, vw g (q + 7) j = vw h (q + 7) j) → vw g 48 12 = w32 (vw h 48 12 + 1) → w4.toInt = w32 ((k : Int) + 1) → Pt n X zM62 24 [some (.ref 48), some (.int x1), some (.int x2), some (.ref q), some (.int w4)] [] g (qN (fun h' => wS h' ∧ vw h' 48 12 = nQ (P62 (vw hb) q land) (vw hb 1 1).toNat ∧ IV h')) := by
      intro e z g w4 S2 I2 F2 g42 g7 g12 g4
      replace g4 := w_1 g4 (by omega) (by omega)
      refine ih g x1 x2 w4 (k + 1) S2 I2 h1 h2 (by omega) (by omega) (fun c j a b d e f => (F2 c j a b d e f).trans (F c j a b d e f)) g42 (fun j => (g7 j).trans (f7 j)) ?_
      rw [nQ_t z, g12, f12, w32_id (by omega) (by omega)]
    refine d62_24 S h1 h2 h4 ⟨fun e => ⟨S, ?_, I⟩, fun e => ⟨fun z w4 g => skip e (fun w => z (cf.mpr w.1)) w4 g, fun z => ⟨sl.2.2.2.2.2.2.2.2, fun _ => ⟨fun z2 w4 g => skip e (fun w => w.2 (by rw [← f7]; exact z2)) w4 g, fun z2 p0 p1 => ?_⟩⟩⟩⟩
    · rw [f12, show (vw hb 1 1).toNat = k by omega]
    · have pk : P62 (vw hb) q land (k : Nat) := ⟨cf.mp z, by rw [← f7]; exact z2⟩
      refine ⟨fun y0 g1 S1 e1 K1 => ?_, fun y0 g S2 eg K w4 g4 => ?_⟩
      · have I1 : IV g1 := IV_ua I K1 e1 (by decide)
        refine ⟨p1_any I1 _, fun q2 g2 R => ?_⟩
        obtain ⟨S2, R⟩ := R
        have w : w32 (y - 1) = y - 1 := w32_id (by omega) (by omega)
        rw [w] at R
        have I2 := IV_1 I1 R
        have s2 := R1_PR I1 R
        have m42 : vw g2 42 y = (q : Int) := by
          rw [R1_o R 42 y (by have := R.1.1; omega) (Or.inr (by omega)), e1, up_c (by decide)]
          exact f42
        have ap := I2.2.2.1 y (y - 1) hy ⟨by omega, by omega⟩ (by omega) q q2 m42 (R1_42 R)
        refine ⟨⟨s2.2.2.2.2.2.2.1, s2.2.2.2.2.2.2.2.1⟩, fun g S3 eg K w4 g4 => ?_⟩
        refine go e pk g w4 S3 (IV_v I2 K (fun c j a _ d => by rw [eg, up_c a, up_c d])) (fun c j a b d e' f => ?_) ?_ (fun j => ?_) ?_ g4
        · rw [eg, up_c d, up_c f, R1_f R c j a b, e1, up_c e']
        · rw [eg, up_c (by decide), up_c (by decide)]
          exact m42
        · rw [eg, up_c (by omega), up_c (by omega), R1_o R (q + 7) j (by omega) (Or.inl (by omega)), e1, up_c (by omega)]
        · rw [eg, up_s, R1_f R 48 12 (by decide) (by decide), e1, up_c (by decide)]
      · refine go e pk g w4 S2 (IV_v I K (fun c j a b d => by rw [eg, up_c a, up_c d, up_c b])) (fun c j a b d e' f => by rw [eg, up_c d, up_c f, up_c e']) (by rw [eg, up_c (by decide), up_c (by decide), up_c (by decide)]; exact f42) (fun j => by rw [eg, up_c (by omega), up_c (by omega), up_c (by omega)]) (by rw [eg, up_s]) g4
theorem c_62 {n : Nat} {X : aX} {h : aH} {x1 x2 : Int32} {a1 a2 : Int} (S : wS h) (z1 : x1.toInt = a1) (z2 : x2.toInt = a2) (I : IV h) : Pt n X zM62 0 [some (.ref 48), some (.int x1), some (.int x2), none, none] [] h (qN (fun h' => wS h' ∧ R62 h a1 a2 h')) := by
  refine pt_d (d62_0 S z1 z2 ⟨p1_any I a2, fun q g R g2 S2 e2 K w4 g4 => ?_⟩)
  obtain ⟨S1, R⟩ := R
  have hy := R.1.2.2.1
  have I1 := IV_1 I R
  have I2 : IV g2 := IV_uf I1 K e2 (by decide)
  refine pt_q (l_62 (hb := g) (q := q) ⟨hy.1, by omega⟩ I1.1.1.1 _ g2 x1 x2 w4 0 S2 I2 z1 z2 g4 I1.1.1.1.1 (fun c j _ _ a _ _ => by rw [e2, up_c a]) (by rw [e2, up_c (by decide)]; exact R1_42 R) (fun j => by rw [e2, up_c (by have := R.1.1; omega)]) (by rw [e2, up_s]; rfl)) ?_
  rintro v h' ⟨ev, S', c, I'⟩
  exact ⟨ev, S', q, g, R, c, I'⟩

theorem d61_0 {n : Nat} {X : aX} {h : aH} {P : Int → aH → Prop} {x1 x2 x3 : Int32} {a1 a2 a3 : Int} (S : wS h) (z1 : x1.toInt = a1) (z2 : x2.toInt = a2) (z3 : x3.toInt = a3) (H : ((IV h) ∧ ∀ (h_1 : aH), (wS h_1 ∧ R62 h a1 a2 h_1) → ∀ h_9 : aH, wS h_9 → vw h_9 = up (vw h_1) 48 9 0 → hk h_1 h_9 → (∀ (w4 : Int32) (w5 : Int32) (w6 : Int32), w4.toInt = min a3 (vw h_1 48 12) → w5.toInt = iDiv (w32 ((min a3 (vw h_1 48 12)) + 1)) 2 → w6.toInt = 0 → Pt n X zM61 32 [some (.ref 48), some (.int x1), some (.int x2), some (.int x3), some (.int w4), some (.int w5), some (.int w6)] [] h_9 (qI P)))) : Pt (n + 1) X zM61 0 [some (.ref 48), some (.int x1), some (.int x2), some (.int x3), none, none, none] [] h (qI P) := by
  refine pt_1 (fun n d => r_aloadn gx61_0 rfl) ?_
  refine pt_d (pt_1 (fun n d => r_iloadn gx61_1 rfl) ?_)
  refine pt_d (pt_1 (fun n d => r_iloadn gx61_2 rfl) ?_)
  obtain ⟨pr1, H⟩ := H
  refine pt_d (pt_virt (as := [.int x1, .int x2]) (r := []) gx61_3 rfl (show zmt[62]? = some zM62 from rfl) rfl rfl rfl rfl (c_62 S z1 z2 pr1) (kqN (fun h_1 P1 => ?_)))
  have S1 := P1.1
  have H := H h_1 P1
  show Pt _ _ _ 6 _ [] _ _
  refine pt_d (pt_1 (fun n d => r_iloadn gx61_6 rfl) ?_)
  refine pt_d (pt_1 (fun n d => r_aloadn gx61_7 rfl) ?_)
  refine pt_d (pt_getI (B := 12) gx61_8 S1 (fun v2 h2 => ?_))
  refine pt_d (pt_min gx61_11 rfl z3 h2 (fun v3 h3 => ?_))
  refine pt_d (pt_1 (fun n d => r_istore (L' := [some (.ref 48), some (.int x1), some (.int x2), some (.int x3), some (.int v3), none, none]) gx61_14 rfl rfl) ?_)
  refine pt_d (pt_1 (fun n d => r_iload gx61_16 rfl) ?_)
  refine pt_d (pt_iconst gx61_18 (fun v4 h4 => ?_))
  refine pt_d (pt_iadd gx61_19 h3 h4 (fun v5 h5 => ?_))
  refine pt_d (pt_iconst gx61_20 (fun v6 h6 => ?_))
  refine pt_d (pt_idiv gx61_21 h5 h6 (fun v7 h7 => ?_))
  refine pt_d (pt_1 (fun n d => r_istore (L' := [some (.ref 48), some (.int x1), some (.int x2), some (.int x3), some (.int v3), some (.int v7), none]) gx61_22 rfl rfl) ?_)
  refine pt_d (pt_1 (fun n d => r_aloadn gx61_24 rfl) ?_)
  refine pt_d (pt_iconst gx61_25 (fun v8 h8 => ?_))
  refine pt_d (pt_putIh (B := 9) gx61_26 S1 h8 (fun h_9 S9 e9 K9 => ?_))
  refine pt_d (pt_iconst gx61_29 (fun v10 h10 => ?_))
  refine pt_d (pt_1 (fun n d => r_istore (L' := [some (.ref 48), some (.int x1), some (.int x2), some (.int x3), some (.int v3), some (.int v7), some (.int v10)]) gx61_30 rfl rfl) ?_)
  have H := H h_9 S9 (by rw [e9]) K9
  exact H v3 v7 v10 h3 h7 h10
theorem d61_32 {n : Nat} {X : aX} {h : aH} {P : Int → aH → Prop} {x1 x2 x3 x4 x5 x6 : Int32} {a1 a2 a3 a4 a5 a6 : Int} (S : wS h) (z1 : x1.toInt = a1) (z2 : x2.toInt = a2) (z3 : x3.toInt = a3) (z4 : x4.toInt = a4) (z5 : x5.toInt = a5) (z6 : x6.toInt = a6) (H : ((a4 ≤ a6 → P a4 h) ∧ (a6 < a4 → ((a5 ≤ a6 → ((IV h) ∧ ∀ (y3 : Int) (h_3 : aH), (wS h_3 ∧ hk h h_3 ∧ IV h_3) → ((IV h_3) ∧ ∀ (h_4 : aH), (wS h_4 ∧ hk h_3 h_4 ∧ IV h_4) → (∀ (w6 : Int32), w6.toInt = w32 (a6 + 1) → Pt n X zM61 32 [some (.ref 48), some (.int x1), some (.int x2), some (.int x3), some (.int x4), some (.int x5), some (.int w6)] [] h_4 (qI P))))) ∧ (a6 < a5 → ((IV h) ∧ ∀ (y6 : Int) (h_6 : aH), (wS h_6 ∧ hk h h_6 ∧ IV h_6) → ((IV h_6) ∧ ∀ (h_7 : aH), (wS h_7 ∧ hk h_6 h_7 ∧ IV h_7) → (∀ (w6 : Int32), w6.toInt = w32 (a6 + 1) → Pt n X zM61 32 [some (.ref 48), some (.int x1), some (.int x2), some (.int x3), some (.int x4), some (.int x5), some (.int w6)] [] h_7 (qI P))))))))) : Pt (n + 1) X zM61 32 [some (.ref 48), some (.int x1), some (.int x2), some (.int x3), some (.int x4), some (.int x5), some (.int x6)] [] h (qI P) := by
  refine pt_1 (fun n d => r_iload gx61_32 rfl) ?_
  refine pt_d (pt_1 (fun n d => r_iload gx61_34 rfl) ?_)
  refine pt_d (pt_icmp_ge gx61_36 z6 z4 (fun e1 => ?_) (fun e1 => ?_))
  · have H := H.1 e1
    refine pt_d (pt_1 (fun n d => r_iload gx61_67 rfl) ?_)
    exact pt_d (pt_iret gx61_69 ⟨_, rfl, by rw [z4]; exact H⟩)
  · have H := H.2 e1
    refine pt_d (pt_1 (fun n d => r_aloadn gx61_39 rfl) ?_)
    refine pt_d (pt_1 (fun n d => r_iload gx61_40 rfl) ?_)
    refine pt_d (pt_1 (fun n d => r_iload gx61_42 rfl) ?_)
    refine pt_d (pt_icmp_ge gx61_44 z6 z5 (fun e2 => ?_) (fun e2 => ?_))
    · have H := H.1 e2
      refine pt_d (pt_1 (fun n d => r_aloadn gx61_54 rfl) ?_)
      obtain ⟨pr3, H⟩ := H
      refine pt_d (pt_virt (as := []) (r := [.ref 48]) gx61_55 rfl (show zmt[64]? = some zM64 from rfl) rfl rfl rfl rfl (wk_64 S pr3) (kqI (fun v3 y3 h_3 h3 P3 => ?_)))
      have S3 := P3.1
      have H := H y3 h_3 P3
      show Pt _ _ _ 58 _ [.int v3, .ref 48] _ _
      obtain ⟨pr4, H⟩ := H
      refine pt_d (pt_virt (as := [.int v3]) (r := []) gx61_58 rfl (show zmt[65]? = some zM65 from rfl) rfl rfl rfl rfl (wk_65 S3 h3 pr4) (kqN (fun h_4 P4 => ?_)))
      have S4 := P4.1
      have H := H h_4 P4
      show Pt _ _ _ 61 _ [] _ _
      refine pt_d (pt_iinc (c := 1) gx61_61 rfl z6 (fun v5 h5 => ?_))
      show Pt _ _ _ _ [some (.ref 48), some (.int x1), some (.int x2), some (.int x3), some (.int x4), some (.int x5), some (.int v5)] [] _ _
      refine pt_d (pt_1 (fun n d => r_goto gx61_64) ?_)
      exact H v5 h5
    · have H := H.2 e2
      refine pt_d (pt_1 (fun n d => r_aloadn gx61_47 rfl) ?_)
      obtain ⟨pr6, H⟩ := H
      refine pt_d (pt_virt (as := []) (r := [.ref 48]) gx61_48 rfl (show zmt[63]? = some zM63 from rfl) rfl rfl rfl rfl (wk_63 S pr6) (kqI (fun v6 y6 h_6 h6 P6 => ?_)))
      have S6 := P6.1
      have H := H y6 h_6 P6
      show Pt _ _ _ 51 _ [.int v6, .ref 48] _ _
      refine pt_d (pt_1 (fun n d => r_goto gx61_51) ?_)
      obtain ⟨pr7, H⟩ := H
      refine pt_d (pt_virt (as := [.int v6]) (r := []) gx61_58 rfl (show zmt[65]? = some zM65 from rfl) rfl rfl rfl rfl (wk_65 S6 h6 pr7) (kqN (fun h_7 P7 => ?_)))
      have S7 := P7.1
      have H := H h_7 P7
      show Pt _ _ _ 61 _ [] _ _
      refine pt_d (pt_iinc (c := 1) gx61_61 rfl z6 (fun v8 h8 => ?_))
      show Pt _ _ _ _ [some (.ref 48), some (.int x1), some (.int x2), some (.int x3), some (.int x4), some (.int x5), some (.int v8)] [] _ _
      refine pt_d (pt_1 (fun n d => r_goto gx61_64) ?_)
      exact H v8 h8
theorem l_61 {X : aX} {m : Int} (hm : m ≤ 1000) : ∀ (n : Nat) (h : aH) (x1 x2 x3 x4 x5 x6 : Int32) (k : Nat), wS h → IV h → x4.toInt = m → x6.toInt = (k : Int) → (k = 0 ∨ (k : Int) ≤ m) → Pt n X zM61 32 [some (.ref 48), some (.int x1), some (.int x2), some (.int x3), some (.int x4), some (.int x5), some (.int x6)] [] h (qI (fun r h' => wS h' ∧ r = m)) := by
  intro n
  induction n with
  | zero => intros; exact pt_z
  | succ n ih =>
    intro h x1 x2 x3 x4 x5 x6 k S I h4 h6 hk'
    refine d61_32 S rfl rfl rfl h4 rfl h6 ⟨fun e => ⟨S, rfl⟩, fun e => ⟨fun _ => ⟨I, fun y3 g3 R3 => ⟨R3.2.2, fun g4 R4 w6 g6 => ?_⟩⟩, fun _ => ⟨I, fun y3 g3 R3 => ⟨R3.2.2, fun g4 R4 w6 g6 => ?_⟩⟩⟩⟩
    · replace g6 := w_1 g6 (by omega) (by omega)
      exact ih g4 x1 x2 x3 x4 x5 w6 (k + 1) R4.1 R4.2.2 h4 (by omega) (Or.inr (by omega))
    · replace g6 := w_1 g6 (by omega) (by omega)
      exact ih g4 x1 x2 x3 x4 x5 w6 (k + 1) R4.1 R4.2.2 h4 (by omega) (Or.inr (by omega))
theorem c_61 {n : Nat} {X : aX} {h : aH} {x1 x2 x3 : Int32} {a1 a2 a3 : Int} (S : wS h) (z1 : x1.toInt = a1) (z2 : x2.toInt = a2) (z3 : x3.toInt = a3) (hp : IV h ∧ a3 ≤ 1000) : Pt n X zM61 0 [some (.ref 48), some (.int x1), some (.int x2), some (.int x3), none, none, none] [] h (qI (fun r h' => wS h' ∧ ∃ g, R62 h a1 a2 g ∧ r = min a3 (vw g 48 12))) := by
  refine pt_d (d61_0 S z1 z2 z3 ⟨hp.1, fun g R g2 S2 e2 K w4 w5 w6 g4 g5 g6 => ?_⟩)
  obtain ⟨S1, R⟩ := R
  have I1 : IV g := R.choose_spec.choose_spec.2.2
  refine pt_q (l_61 (m := min a3 (vw g 48 12)) (by have := hp.2; omega) n g2 x1 x2 x3 w4 w5 w6 0 S2 (IV_uf I1 K e2 (by decide)) g4 g6 (Or.inl rfl)) ?_
  rintro v h' ⟨x, ev, S', r⟩
  exact ⟨x, ev, S', g, R, r⟩

theorem d178_0 {n : Nat} {X : aX} {h : aH} {P : Int → aH → Prop} {x1 x2 x3 : Int32} {a1 a2 a3 : Int} (S : wS h) (z1 : x1.toInt = a1) (z2 : x2.toInt = a2) (z3 : x3.toInt = a3) (H : ((¬ (0 ≤ a1 ∧ a1 ≤ 3) → P (-1) h) ∧ ((0 ≤ a1 ∧ a1 ≤ 3) → ((¬ (0 ≤ a2 ∧ a2 ≤ 9) → P (-1) h) ∧ ((0 ≤ a2 ∧ a2 ≤ 9) → (((1 ≤ a3 ∧ a3 ≤ 9) → ((IV h ∧ a3 ≤ 1000) ∧ ∀ (y12 : Int) (h_12 : aH), (wS h_12 ∧ ∃ g, R62 h a1 a2 g ∧ y12 = min a3 (vw g 48 12)) → P y12 h_12)) ∧ (¬ (1 ≤ a3 ∧ a3 ≤ 9) → P (-1) h))))))) : Pt (n + 1) X zM178 0 [some (.ref 0), some (.int x1), some (.int x2), some (.int x3)] [] h (qI P) := by
  refine pt_1 (fun n d => r_iloadn gx178_0 rfl) ?_
  refine pt_d (pt_stat (as := [.int x1]) (r := []) gx178_1 rfl (show zmt[140]? = some zM140 from rfl) rfl rfl rfl rfl (c_140 S z1) (kqP (fun v1 h1 => ?_)))
  show Pt _ _ _ 4 _ [.int v1] _ _
  refine pt_d (pt_ifB_eq gx178_4 h1 (fun e2 => ?_) (fun e2 => ?_))
  · have H := H.1 e2
    refine pt_d (pt_iconst gx178_24 (fun v3 h3 => ?_))
    exact pt_d (pt_iret gx178_25 ⟨_, rfl, by rw [h3]; exact H⟩)
  · have H := H.2 e2
    refine pt_d (pt_1 (fun n d => r_iloadn gx178_7 rfl) ?_)
    refine pt_d (pt_stat (as := [.int x2]) (r := []) gx178_8 rfl (show zmt[139]? = some zM139 from rfl) rfl rfl rfl rfl (c_139 S z2) (kqP (fun v4 h4 => ?_)))
    show Pt _ _ _ 11 _ [.int v4] _ _
    refine pt_d (pt_ifB_eq gx178_11 h4 (fun e5 => ?_) (fun e5 => ?_))
    · have H := H.1 e5
      refine pt_d (pt_iconst gx178_24 (fun v6 h6 => ?_))
      exact pt_d (pt_iret gx178_25 ⟨_, rfl, by rw [h6]; exact H⟩)
    · have H := H.2 e5
      refine pt_d (pt_1 (fun n d => r_iloadn gx178_14 rfl) ?_)
      refine pt_d (pt_iconst gx178_15 (fun v7 h7 => ?_))
      refine pt_d (pt_bipush gx178_16 (fun v8 h8 => ?_))
      refine pt_d (pt_stat (as := [.int x3, .int v7, .int v8]) (r := []) gx178_18 rfl (show zmt[137]? = some zM137 from rfl) rfl rfl rfl rfl (c_137 S z3 h7 h8) (kqP (fun v9 h9 => ?_)))
      show Pt _ _ _ 21 _ [.int v9] _ _
      refine pt_d (pt_ifB_ne gx178_21 h9 (fun e10 => ?_) (fun e10 => ?_))
      · have H := H.1 e10
        refine pt_d (pt_1 (fun n d => r_aloadn gx178_26 rfl) ?_)
        refine pt_d (pt_getR gx178_27 S tr_0_5 ?_)
        refine pt_d (pt_1 (fun n d => r_iloadn gx178_30 rfl) ?_)
        refine pt_d (pt_1 (fun n d => r_iloadn gx178_31 rfl) ?_)
        refine pt_d (pt_1 (fun n d => r_iloadn gx178_32 rfl) ?_)
        obtain ⟨pr12, H⟩ := H
        refine pt_d (pt_virt (as := [.int x1, .int x2, .int x3]) (r := []) gx178_33 rfl (show zmt[61]? = some zM61 from rfl) rfl rfl rfl rfl (c_61 S z1 z2 z3 pr12) (kqI (fun v12 y12 h_12 h12 P12 => ?_)))
        have S12 := P12.1
        have H := H y12 h_12 P12
        show Pt _ _ _ 36 _ [.int v12] _ _
        exact pt_d (pt_iret gx178_36 ⟨_, rfl, by rw [h12]; exact H⟩)
      · have H := H.2 e10
        refine pt_d (pt_iconst gx178_24 (fun v13 h13 => ?_))
        exact pt_d (pt_iret gx178_25 ⟨_, rfl, by rw [h13]; exact H⟩)
def okDr (l y n : Int) : Prop := (0 ≤ l ∧ l ≤ 3) ∧ (0 ≤ y ∧ y ≤ 9) ∧ 1 ≤ n ∧ n ≤ 9
def R178 (h : aH) (l y n r : Int) : Prop := (¬ okDr l y n ∧ r = -1) ∨ (okDr l y n ∧ ∃ g, R62 h l y g ∧ r = min n (vw g 48 12))
theorem c_178w {n : Nat} {X : aX} {h : aH} {x1 x2 x3 : Int32} {a1 a2 a3 : Int} (S : wS h) (z1 : x1.toInt = a1) (z2 : x2.toInt = a2) (z3 : x3.toInt = a3) (I : IV h) : Pt n X zM178 0 [some (.ref 0), some (.int x1), some (.int x2), some (.int x3)] [] h (qI (fun r h' => R178 h a1 a2 a3 r ∧ IV h')) := by
  have c : Pt n X zM178 0 [some (.ref 0), some (.int x1), some (.int x2), some (.int x3)] [] h (qI (fun r _ => R178 h a1 a2 a3 r)) :=
    pt_d (d178_0 S z1 z2 z3 ⟨fun e => Or.inl ⟨fun z => e z.1, rfl⟩, fun e1 => ⟨fun e => Or.inl ⟨fun z => e z.2.1, rfl⟩, fun e2 => ⟨fun e3 => ⟨⟨I, by omega⟩, fun r g R => Or.inr ⟨⟨e1, e2, e3⟩, R.2⟩⟩, fun e => Or.inl ⟨fun z => e z.2.2, rfl⟩⟩⟩⟩)
  refine pt_q (pt_and c (wk_178 S z1 z2 z3 I)) ?_
  rintro v h' ⟨⟨x, ev, r⟩, ⟨x', -, -, -, I'⟩⟩
  exact ⟨x, ev, r, I'⟩
end
section
-- ===== the draw =====
theorem d292_0 {n : Nat} {X : aX} {h : aH} {P : Int → aH → Prop} {x1 x2 x3 : Int32} {a1 a2 a3 : Int} (S : wS h) (z1 : x1.toInt = a1) (z2 : x2.toInt = a2) (z3 : x3.toInt = a3) (H : ((¬ (0 ≤ a1 ∧ a1 ≤ 3) → P (-1) h) ∧ ((0 ≤ a1 ∧ a1 ≤ 3) → ((¬ (0 ≤ a2 ∧ a2 ≤ 9) → P (-1) h) ∧ ((0 ≤ a2 ∧ a2 ≤ 9) → (((1 ≤ a3 ∧ a3 ≤ 9) → ((q239 (vw h)) ∧ ∀ (h_12 : aH), (wS h_12 ∧ R239 (vw h) (vw h 72 1) (vw h_12)) → (∀ (w4 : Int32) (w5 : Int32), w4.toInt = 0 → w5.toInt = 0 → Pt n X zM292 40 [some (.ref 72), some (.int x1), some (.int x2), some (.int x3), some (.int w4), some (.int w5), none, none, none, none] [] h_12 (qI P)))) ∧ (¬ (1 ≤ a3 ∧ a3 ≤ 9) → P (-1) h))))))) : Pt (n + 1) X zM292 0 [some (.ref 72), some (.int x1), some (.int x2), some (.int x3), none, none, none, none, none, none] [] h (qI P) := by
  refine pt_1 (fun n d => r_iloadn gx292_0 rfl) ?_
  refine pt_d (pt_stat (as := [.int x1]) (r := []) gx292_1 rfl (show zmt[206]? = some zM206 from rfl) rfl rfl rfl rfl (c_206 S z1) (kqP (fun v1 h1 => ?_)))
  show Pt _ _ _ 4 _ [.int v1] _ _
  refine pt_d (pt_ifB_eq gx292_4 h1 (fun e2 => ?_) (fun e2 => ?_))
  · have H := H.1 e2
    refine pt_d (pt_iconst gx292_24 (fun v3 h3 => ?_))
    exact pt_d (pt_iret gx292_25 ⟨_, rfl, by rw [h3]; exact H⟩)
  · have H := H.2 e2
    refine pt_d (pt_1 (fun n d => r_iloadn gx292_7 rfl) ?_)
    refine pt_d (pt_stat (as := [.int x2]) (r := []) gx292_8 rfl (show zmt[198]? = some zM198 from rfl) rfl rfl rfl rfl (c_198 S z2) (kqP (fun v4 h4 => ?_)))
    show Pt _ _ _ 11 _ [.int v4] _ _
    refine pt_d (pt_ifB_eq gx292_11 h4 (fun e5 => ?_) (fun e5 => ?_))
    · have H := H.1 e5
      refine pt_d (pt_iconst gx292_24 (fun v6 h6 => ?_))
      exact pt_d (pt_iret gx292_25 ⟨_, rfl, by rw [h6]; exact H⟩)
    · have H := H.2 e5
      refine pt_d (pt_1 (fun n d => r_iloadn gx292_14 rfl) ?_)
      refine pt_d (pt_iconst gx292_15 (fun v7 h7 => ?_))
      refine pt_d (pt_bipush gx292_16 (fun v8 h8 => ?_))
      refine pt_d (pt_stat (as := [.int x3, .int v7, .int v8]) (r := []) gx292_18 rfl (show zmt[196]? = some zM196 from rfl) rfl rfl rfl rfl (c_196 S z3 h7 h8) (kqP (fun v9 h9 => ?_)))
      show Pt _ _ _ 21 _ [.int v9] _ _
      refine pt_d (pt_ifB_ne gx292_21 h9 (fun e10 => ?_) (fun e10 => ?_))
      · have H := H.1 e10
        refine pt_d (pt_1 (fun n d => r_aloadn gx292_26 rfl) ?_)
        refine pt_d (pt_1 (fun n d => r_aloadn gx292_27 rfl) ?_)
        refine pt_d (pt_getI (B := 1) gx292_28 S (fun v11 h11 => ?_))
        obtain ⟨pr12, H⟩ := H
        refine pt_d (pt_virt (as := [.int v11]) (r := []) gx292_31 rfl (show zmt[239]? = some zM239 from rfl) rfl rfl rfl rfl (c_239 S h11 pr12) (kqN (fun h_12 P12 => ?_)))
        have S12 := P12.1
        have H := H h_12 P12
        show Pt _ _ _ 34 _ [] _ _
        refine pt_d (pt_iconst gx292_34 (fun v13 h13 => ?_))
        refine pt_d (pt_1 (fun n d => r_istore (L' := [some (.ref 72), some (.int x1), some (.int x2), some (.int x3), some (.int v13), none, none, none, none, none]) gx292_35 rfl rfl) ?_)
        refine pt_d (pt_iconst gx292_37 (fun v14 h14 => ?_))
        refine pt_d (pt_1 (fun n d => r_istore (L' := [some (.ref 72), some (.int x1), some (.int x2), some (.int x3), some (.int v13), some (.int v14), none, none, none, none]) gx292_38 rfl rfl) ?_)
        exact H v13 v14 h13 h14
      · have H := H.2 e10
        refine pt_d (pt_iconst gx292_24 (fun v15 h15 => ?_))
        exact pt_d (pt_iret gx292_25 ⟨_, rfl, by rw [h15]; exact H⟩)
theorem d292_40 {n : Nat} {X : aX} {h : aH} {P : Int → aH → Prop} {x1 x2 x3 x4 x5 : Int32} {a1 a2 a3 a4 a5 : Int} (S : wS h) (z1 : x1.toInt = a1) (z2 : x2.toInt = a2) (z3 : x3.toInt = a3) (z4 : x4.toInt = a4) (z5 : x5.toInt = a5) (H : ((vw h 72 2 ≤ a5 → (∀ (w5 : Int32) (w6 : Int32) (u7_ : Option Value) (u8_ : Option Value) (u9_ : Option Value), w5.toInt = min a3 a4 → w6.toInt = 0 → Pt n X zM292 128 [some (.ref 72), some (.int x1), some (.int x2), some (.int x3), some (.int x4), some (.int w5), some (.int w6), u7_, u8_, u9_] [] h (qI P))) ∧ (a5 < vw h 72 2 → ((¬ (mFarm (vw h) a5) → (0 ≤ a5 → a5 < 150 → ((bAnd 0 1 = 0 → ∀ h_9 : aH, wS h_9 → vw h_9 = up (vw h) 135 a5 (bAnd 0 1) → (∀ (w4 : Int32) (w5 : Int32), w4.toInt = w32 (a4 + 0) → w5.toInt = w32 (a5 + 1) → Pt n X zM292 40 [some (.ref 72), some (.int x1), some (.int x2), some (.int x3), some (.int w4), some (.int w5), none, none, none, none] [] h_9 (qI P))) ∧ (bAnd 0 1 ≠ 0 → ∀ h_9 : aH, wS h_9 → vw h_9 = up (vw h) 135 a5 (bAnd 0 1) → (∀ (w4 : Int32) (w5 : Int32), w4.toInt = w32 (a4 + 1) → w5.toInt = w32 (a5 + 1) → Pt n X zM292 40 [some (.ref 72), some (.int x1), some (.int x2), some (.int x3), some (.int w4), some (.int w5), none, none, none, none] [] h_9 (qI P)))))) ∧ ((mFarm (vw h) a5) → (0 ≤ a5 → a5 < 150 → ((vw h 74 a5 ≠ a1 → ((bAnd 0 1 = 0 → ∀ h_23 : aH, wS h_23 → vw h_23 = up (vw h) 135 a5 (bAnd 0 1) → (∀ (w4 : Int32) (w5 : Int32), w4.toInt = w32 (a4 + 0) → w5.toInt = w32 (a5 + 1) → Pt n X zM292 40 [some (.ref 72), some (.int x1), some (.int x2), some (.int x3), some (.int w4), some (.int w5), none, none, none, none] [] h_23 (qI P))) ∧ (bAnd 0 1 ≠ 0 → ∀ h_23 : aH, wS h_23 → vw h_23 = up (vw h) 135 a5 (bAnd 0 1) → (∀ (w4 : Int32) (w5 : Int32), w4.toInt = w32 (a4 + 1) → w5.toInt = w32 (a5 + 1) → Pt n X zM292 40 [some (.ref 72), some (.int x1), some (.int x2), some (.int x3), some (.int w4), some (.int w5), none, none, none, none] [] h_23 (qI P))))) ∧ (vw h 74 a5 = a1 → ((0 ≤ vw h 72 19 ∧ vw h 72 19 ≤ 300) ∧ ((¬ (∃ c, (0 ≤ c ∧ c < vw h 72 19) ∧ (vw h 103 c ≠ 0 ∧ vw h 87 c = a5 ∧ iDiv (vw h 90 c) 365 = a2)) → ((bAnd 0 1 = 0 → ∀ h_36 : aH, wS h_36 → vw h_36 = up (vw h) 135 a5 (bAnd 0 1) → (∀ (w4 : Int32) (w5 : Int32), w4.toInt = w32 (a4 + 0) → w5.toInt = w32 (a5 + 1) → Pt n X zM292 40 [some (.ref 72), some (.int x1), some (.int x2), some (.int x3), some (.int w4), some (.int w5), none, none, none, none] [] h_36 (qI P))) ∧ (bAnd 0 1 ≠ 0 → ∀ h_36 : aH, wS h_36 → vw h_36 = up (vw h) 135 a5 (bAnd 0 1) → (∀ (w4 : Int32) (w5 : Int32), w4.toInt = w32 (a4 + 1) → w5.toInt = w32 (a5 + 1) → Pt n X zM292 40 [some (.ref 72), some (.int x1), some (.int x2), some (.int x3), some (.int w4), some (.int w5), none, none, none, none] [] h_36 (qI P))))) ∧ ((∃ c, (0 ≤ c ∧ c < vw h 72 19) ∧ (vw h 103 c ≠ 0 ∧ vw h 87 c = a5 ∧ iDiv (vw h 90 c) 365 = a2)) → ((bAnd 1 1 = 0 → ∀ h_47 : aH, wS h_47 → vw h_47 = up (vw h) 135 a5 (bAnd 1 1) → (∀ (w4 : Int32) (w5 : Int32), w4.toInt = w32 (a4 + 0) → w5.toInt = w32 (a5 + 1) → Pt n X zM292 40 [some (.ref 72), some (.int x1), some (.int x2), some (.int x3), some (.int w4), some (.int w5), none, none, none, none] [] h_47 (qI P))) ∧ (bAnd 1 1 ≠ 0 → ∀ h_47 : aH, wS h_47 → vw h_47 = up (vw h) 135 a5 (bAnd 1 1) → (∀ (w4 : Int32) (w5 : Int32), w4.toInt = w32 (a4 + 1) → w5.toInt = w32 (a5 + 1) → Pt n X zM292 40 [some (.ref 72), some (.int x1), some (.int x2), some (.int x3), some (.int w4), some (.int w5), none, none, none, none] [] h_47 (qI P))))))))))))))) : Pt (n + 1) X zM292 40 [some (.ref 72), some (.int x1), some (.int x2), some (.int x3), some (.int x4), some (.int x5), none, none, none, none] [] h (qI P) := by
  refine pt_1 (fun n d => r_iload gx292_40 rfl) ?_
  refine pt_d (pt_1 (fun n d => r_aloadn gx292_42 rfl) ?_)
  refine pt_d (pt_getI (B := 2) gx292_43 S (fun v1 h1 => ?_))
  refine pt_d (pt_icmp_ge gx292_46 z5 h1 (fun e2 => ?_) (fun e2 => ?_))
  · have H := H.1 e2
    refine pt_d (pt_1 (fun n d => r_iloadn gx292_117 rfl) ?_)
    refine pt_d (pt_1 (fun n d => r_iload gx292_118 rfl) ?_)
    refine pt_d (pt_stat (as := [.int x3, .int x4]) (r := []) gx292_120 rfl (show zmt[211]? = some zM211 from rfl) rfl rfl rfl rfl (c_211 S z3 z4) (kqP (fun v3 h3 => ?_)))
    show Pt _ _ _ 123 _ [.int v3] _ _
    refine pt_d (pt_1 (fun n d => r_istore (L' := [some (.ref 72), some (.int x1), some (.int x2), some (.int x3), some (.int x4), some (.int v3), none, none, none, none]) gx292_123 rfl rfl) ?_)
    refine pt_d (pt_iconst gx292_125 (fun v4 h4 => ?_))
    refine pt_d (pt_1 (fun n d => r_istore (L' := [some (.ref 72), some (.int x1), some (.int x2), some (.int x3), some (.int x4), some (.int v3), some (.int v4), none, none, none]) gx292_126 rfl rfl) ?_)
    exact H v3 v4 _ _ _ h3 h4
  · have H := H.2 e2
    refine pt_d (pt_1 (fun n d => r_aloadn gx292_49 rfl) ?_)
    refine pt_d (pt_getR gx292_50 S tr_72_86 ?_)
    refine pt_d (pt_1 (fun n d => r_iload gx292_53 rfl) ?_)
    refine pt_d (pt_1 (fun n d => r_aloadn gx292_55 rfl) ?_)
    refine pt_d (pt_1 (fun n d => r_iload gx292_56 rfl) ?_)
    refine pt_d (pt_virt (as := [.int x5]) (r := [.int x5, .ref 135]) gx292_58 rfl (show zmt[202]? = some zM202 from rfl) rfl rfl rfl rfl (c_202 S z5) (kqP (fun v6 h6 => ?_)))
    show Pt _ _ _ 61 _ [.int v6, .int x5, .ref 135] _ _
    refine pt_d (pt_ifB_eq gx292_61 h6 (fun e7 => ?_) (fun e7 => ?_))
    · have H := H.1 e7
      refine pt_d (pt_iconst gx292_89 (fun v8 h8 => ?_))
      refine pt_d (pt_zast (N' := 150) gx292_90 S tl_135 z5 h8 (fun h_9 S9 p9 q9 e9 => ?_))
      have H := H p9 q9
      refine pt_d (pt_1 (fun n d => r_iload gx292_91 rfl) ?_)
      refine pt_d (pt_1 (fun n d => r_aloadn gx292_93 rfl) ?_)
      refine pt_d (pt_getR gx292_94 S9 tr_72_86 ?_)
      refine pt_d (pt_1 (fun n d => r_iload gx292_97 rfl) ?_)
      refine pt_d (pt_zald (N' := 150) gx292_99 S9 tl_135 z5 (fun v11 p11 q11 h11 => ?_))
      have h11 : v11.toInt = bAnd 0 1 := by rw [h11, e9, up_s]
      refine pt_d (pt_if_eq gx292_100 h11 (fun e12 => ?_) (fun e12 => ?_))
      · have H := H.1 e12
        refine pt_d (pt_iconst gx292_107 (fun v13 h13 => ?_))
        refine pt_d (pt_iadd gx292_108 z4 h13 (fun v14 h14 => ?_))
        refine pt_d (pt_1 (fun n d => r_istore (L' := [some (.ref 72), some (.int x1), some (.int x2), some (.int x3), some (.int v14), some (.int x5), none, none, none, none]) gx292_109 rfl rfl) ?_)
        refine pt_d (pt_iinc (c := 1) gx292_111 rfl z5 (fun v15 h15 => ?_))
        show Pt _ _ _ _ [some (.ref 72), some (.int x1), some (.int x2), some (.int x3), some (.int v14), some (.int v15), none, none, none, none] [] _ _
        refine pt_d (pt_1 (fun n d => r_goto gx292_114) ?_)
        have H := H h_9 S9 (by rw [e9])
        exact H v14 v15 h14 h15
      · have H := H.2 e12
        refine pt_d (pt_iconst gx292_103 (fun v16 h16 => ?_))
        refine pt_d (pt_1 (fun n d => r_goto gx292_104) ?_)
        refine pt_d (pt_iadd gx292_108 z4 h16 (fun v17 h17 => ?_))
        refine pt_d (pt_1 (fun n d => r_istore (L' := [some (.ref 72), some (.int x1), some (.int x2), some (.int x3), some (.int v17), some (.int x5), none, none, none, none]) gx292_109 rfl rfl) ?_)
        refine pt_d (pt_iinc (c := 1) gx292_111 rfl z5 (fun v18 h18 => ?_))
        show Pt _ _ _ _ [some (.ref 72), some (.int x1), some (.int x2), some (.int x3), some (.int v17), some (.int v18), none, none, none, none] [] _ _
        refine pt_d (pt_1 (fun n d => r_goto gx292_114) ?_)
        have H := H h_9 S9 (by rw [e9])
        exact H v17 v18 h17 h18
    · have H := H.2 e7
      refine pt_d (pt_1 (fun n d => r_aloadn gx292_64 rfl) ?_)
      refine pt_d (pt_getR gx292_65 S tr_72_4 ?_)
      refine pt_d (pt_1 (fun n d => r_iload gx292_68 rfl) ?_)
      refine pt_d (pt_iald (N' := 150) gx292_70 S tl_74 z5 (fun v20 p20 q20 h20 => ?_))
      have H := H p20 q20
      refine pt_d (pt_1 (fun n d => r_iloadn gx292_71 rfl) ?_)
      refine pt_d (pt_icmp_ne gx292_72 h20 z1 (fun e21 => ?_) (fun e21 => ?_))
      · have H := H.1 e21
        refine pt_d (pt_iconst gx292_89 (fun v22 h22 => ?_))
        refine pt_d (pt_zast (N' := 150) gx292_90 S tl_135 z5 h22 (fun h_23 S23 p23 q23 e23 => ?_))
        refine pt_d (pt_1 (fun n d => r_iload gx292_91 rfl) ?_)
        refine pt_d (pt_1 (fun n d => r_aloadn gx292_93 rfl) ?_)
        refine pt_d (pt_getR gx292_94 S23 tr_72_86 ?_)
        refine pt_d (pt_1 (fun n d => r_iload gx292_97 rfl) ?_)
        refine pt_d (pt_zald (N' := 150) gx292_99 S23 tl_135 z5 (fun v25 p25 q25 h25 => ?_))
        have h25 : v25.toInt = bAnd 0 1 := by rw [h25, e23, up_s]
        refine pt_d (pt_if_eq gx292_100 h25 (fun e26 => ?_) (fun e26 => ?_))
        · have H := H.1 e26
          refine pt_d (pt_iconst gx292_107 (fun v27 h27 => ?_))
          refine pt_d (pt_iadd gx292_108 z4 h27 (fun v28 h28 => ?_))
          refine pt_d (pt_1 (fun n d => r_istore (L' := [some (.ref 72), some (.int x1), some (.int x2), some (.int x3), some (.int v28), some (.int x5), none, none, none, none]) gx292_109 rfl rfl) ?_)
          refine pt_d (pt_iinc (c := 1) gx292_111 rfl z5 (fun v29 h29 => ?_))
          show Pt _ _ _ _ [some (.ref 72), some (.int x1), some (.int x2), some (.int x3), some (.int v28), some (.int v29), none, none, none, none] [] _ _
          refine pt_d (pt_1 (fun n d => r_goto gx292_114) ?_)
          have H := H h_23 S23 (by rw [e23])
          exact H v28 v29 h28 h29
        · have H := H.2 e26
          refine pt_d (pt_iconst gx292_103 (fun v30 h30 => ?_))
          refine pt_d (pt_1 (fun n d => r_goto gx292_104) ?_)
          refine pt_d (pt_iadd gx292_108 z4 h30 (fun v31 h31 => ?_))
          refine pt_d (pt_1 (fun n d => r_istore (L' := [some (.ref 72), some (.int x1), some (.int x2), some (.int x3), some (.int v31), some (.int x5), none, none, none, none]) gx292_109 rfl rfl) ?_)
          refine pt_d (pt_iinc (c := 1) gx292_111 rfl z5 (fun v32 h32 => ?_))
          show Pt _ _ _ _ [some (.ref 72), some (.int x1), some (.int x2), some (.int x3), some (.int v31), some (.int v32), none, none, none, none] [] _ _
          refine pt_d (pt_1 (fun n d => r_goto gx292_114) ?_)
          have H := H h_23 S23 (by rw [e23])
          exact H v31 v32 h31 h32
      · have H := H.2 e21
        refine pt_d (pt_1 (fun n d => r_aloadn gx292_75 rfl) ?_)
        refine pt_d (pt_1 (fun n d => r_iload gx292_76 rfl) ?_)
        refine pt_d (pt_1 (fun n d => r_iloadn gx292_78 rfl) ?_)
        obtain ⟨pr33, H⟩ := H
        refine pt_d (pt_virt (as := [.int x5, .int x2]) (r := [.int x5, .ref 135]) gx292_79 rfl (show zmt[291]? = some zM291 from rfl) rfl rfl rfl rfl (c_291 S z5 z2 pr33) (kqP (fun v33 h33 => ?_)))
        show Pt _ _ _ 82 _ [.int v33, .int x5, .ref 135] _ _
        refine pt_d (pt_ifB_eq gx292_82 h33 (fun e34 => ?_) (fun e34 => ?_))
        · have H := H.1 e34
          refine pt_d (pt_iconst gx292_89 (fun v35 h35 => ?_))
          refine pt_d (pt_zast (N' := 150) gx292_90 S tl_135 z5 h35 (fun h_36 S36 p36 q36 e36 => ?_))
          refine pt_d (pt_1 (fun n d => r_iload gx292_91 rfl) ?_)
          refine pt_d (pt_1 (fun n d => r_aloadn gx292_93 rfl) ?_)
          refine pt_d (pt_getR gx292_94 S36 tr_72_86 ?_)
          refine pt_d (pt_1 (fun n d => r_iload gx292_97 rfl) ?_)
          refine pt_d (pt_zald (N' := 150) gx292_99 S36 tl_135 z5 (fun v38 p38 q38 h38 => ?_))
          have h38 : v38.toInt = bAnd 0 1 := by rw [h38, e36, up_s]
          refine pt_d (pt_if_eq gx292_100 h38 (fun e39 => ?_) (fun e39 => ?_))
          · have H := H.1 e39
            refine pt_d (pt_iconst gx292_107 (fun v40 h40 => ?_))
            refine pt_d (pt_iadd gx292_108 z4 h40 (fun v41 h41 => ?_))
            refine pt_d (pt_1 (fun n d => r_istore (L' := [some (.ref 72), some (.int x1), some (.int x2), some (.int x3), some (.int v41), some (.int x5), none, none, none, none]) gx292_109 rfl rfl) ?_)
            refine pt_d (pt_iinc (c := 1) gx292_111 rfl z5 (fun v42 h42 => ?_))
            show Pt _ _ _ _ [some (.ref 72), some (.int x1), some (.int x2), some (.int x3), some (.int v41), some (.int v42), none, none, none, none] [] _ _
            refine pt_d (pt_1 (fun n d => r_goto gx292_114) ?_)
            have H := H h_36 S36 (by rw [e36])
            exact H v41 v42 h41 h42
          · have H := H.2 e39
            refine pt_d (pt_iconst gx292_103 (fun v43 h43 => ?_))
            refine pt_d (pt_1 (fun n d => r_goto gx292_104) ?_)
            refine pt_d (pt_iadd gx292_108 z4 h43 (fun v44 h44 => ?_))
            refine pt_d (pt_1 (fun n d => r_istore (L' := [some (.ref 72), some (.int x1), some (.int x2), some (.int x3), some (.int v44), some (.int x5), none, none, none, none]) gx292_109 rfl rfl) ?_)
            refine pt_d (pt_iinc (c := 1) gx292_111 rfl z5 (fun v45 h45 => ?_))
            show Pt _ _ _ _ [some (.ref 72), some (.int x1), some (.int x2), some (.int x3), some (.int v44), some (.int v45), none, none, none, none] [] _ _
            refine pt_d (pt_1 (fun n d => r_goto gx292_114) ?_)
            have H := H h_36 S36 (by rw [e36])
            exact H v44 v45 h44 h45
        · have H := H.2 e34
          refine pt_d (pt_iconst gx292_85 (fun v46 h46 => ?_))
          refine pt_d (pt_1 (fun n d => r_goto gx292_86) ?_)
          refine pt_d (pt_zast (N' := 150) gx292_90 S tl_135 z5 h46 (fun h_47 S47 p47 q47 e47 => ?_))
          refine pt_d (pt_1 (fun n d => r_iload gx292_91 rfl) ?_)
          refine pt_d (pt_1 (fun n d => r_aloadn gx292_93 rfl) ?_)
          refine pt_d (pt_getR gx292_94 S47 tr_72_86 ?_)
          refine pt_d (pt_1 (fun n d => r_iload gx292_97 rfl) ?_)
          refine pt_d (pt_zald (N' := 150) gx292_99 S47 tl_135 z5 (fun v49 p49 q49 h49 => ?_))
          have h49 : v49.toInt = bAnd 1 1 := by rw [h49, e47, up_s]
          refine pt_d (pt_if_eq gx292_100 h49 (fun e50 => ?_) (fun e50 => ?_))
          · have H := H.1 e50
            refine pt_d (pt_iconst gx292_107 (fun v51 h51 => ?_))
            refine pt_d (pt_iadd gx292_108 z4 h51 (fun v52 h52 => ?_))
            refine pt_d (pt_1 (fun n d => r_istore (L' := [some (.ref 72), some (.int x1), some (.int x2), some (.int x3), some (.int v52), some (.int x5), none, none, none, none]) gx292_109 rfl rfl) ?_)
            refine pt_d (pt_iinc (c := 1) gx292_111 rfl z5 (fun v53 h53 => ?_))
            show Pt _ _ _ _ [some (.ref 72), some (.int x1), some (.int x2), some (.int x3), some (.int v52), some (.int v53), none, none, none, none] [] _ _
            refine pt_d (pt_1 (fun n d => r_goto gx292_114) ?_)
            have H := H h_47 S47 (by rw [e47])
            exact H v52 v53 h52 h53
          · have H := H.2 e50
            refine pt_d (pt_iconst gx292_103 (fun v54 h54 => ?_))
            refine pt_d (pt_1 (fun n d => r_goto gx292_104) ?_)
            refine pt_d (pt_iadd gx292_108 z4 h54 (fun v55 h55 => ?_))
            refine pt_d (pt_1 (fun n d => r_istore (L' := [some (.ref 72), some (.int x1), some (.int x2), some (.int x3), some (.int v55), some (.int x5), none, none, none, none]) gx292_109 rfl rfl) ?_)
            refine pt_d (pt_iinc (c := 1) gx292_111 rfl z5 (fun v56 h56 => ?_))
            show Pt _ _ _ _ [some (.ref 72), some (.int x1), some (.int x2), some (.int x3), some (.int v55), some (.int v56), none, none, none, none] [] _ _
            refine pt_d (pt_1 (fun n d => r_goto gx292_114) ?_)
            have H := H h_47 S47 (by rw [e47])
            exact H v55 v56 h55 h56
theorem d292_128 {n : Nat} {X : aX} {h : aH} {P : Int → aH → Prop} {x1 x2 x3 x4 x5 x6 : Int32} {a1 a2 a3 a4 a5 a6 : Int} {u7 u8 u9 : Option Value} (S : wS h) (z1 : x1.toInt = a1) (z2 : x2.toInt = a2) (z3 : x3.toInt = a3) (z4 : x4.toInt = a4) (z5 : x5.toInt = a5) (z6 : x6.toInt = a6) (H : ((a5 ≤ a6 → ∀ h_2 : aH, wS h_2 → vw h_2 = up (vw h) 72 84 a5 → P a5 h_2) ∧ (a6 < a5 → ((iDiv (w32 (a5 + 1)) 2 ≤ a6 → ∀ h_14 : aH, wS h_14 → vw h_14 = up (vw h) 72 83 (w32 ((w32 ((vw h 72 83) * 1103515245)) + 12345)) → (∀ (w7 : Int32) (w8 : Int32) (w9 : Int32), w7.toInt = (-1) → w8.toInt = iRem (bUshr (w32 ((w32 ((vw h 72 83) * 1103515245)) + 12345)) 8) (w32 (a4 - a6)) → w9.toInt = 0 → Pt n X zM292 240 [some (.ref 72), some (.int x1), some (.int x2), some (.int x3), some (.int x4), some (.int x5), some (.int x6), some (.int w7), some (.int w8), some (.int w9)] [] h_14 (qI P))) ∧ (a6 < iDiv (w32 (a5 + 1)) 2 → (∀ (w7 : Int32) (w8 : Int32) (u9_ : Option Value), w7.toInt = (-1) → w8.toInt = 0 → Pt n X zM292 152 [some (.ref 72), some (.int x1), some (.int x2), some (.int x3), some (.int x4), some (.int x5), some (.int x6), some (.int w7), some (.int w8), u9_] [] h (qI P))))))) : Pt (n + 1) X zM292 128 [some (.ref 72), some (.int x1), some (.int x2), some (.int x3), some (.int x4), some (.int x5), some (.int x6), u7, u8, u9] [] h (qI P) := by
  refine pt_1 (fun n d => r_iload gx292_128 rfl) ?_
  refine pt_d (pt_1 (fun n d => r_iload gx292_130 rfl) ?_)
  refine pt_d (pt_icmp_ge gx292_132 z6 z5 (fun e1 => ?_) (fun e1 => ?_))
  · have H := H.1 e1
    refine pt_d (pt_1 (fun n d => r_aloadn gx292_308 rfl) ?_)
    refine pt_d (pt_1 (fun n d => r_iload gx292_309 rfl) ?_)
    refine pt_d (pt_putI (B := 84) gx292_311 S z5 (fun h_2 S2 e2 => ?_))
    refine pt_d (pt_1 (fun n d => r_iload gx292_314 rfl) ?_)
    have H := H h_2 S2 (by rw [e2])
    exact pt_d (pt_iret gx292_316 ⟨_, rfl, by rw [z5]; exact H⟩)
  · have H := H.2 e1
    refine pt_d (pt_iconst gx292_135 (fun v3 h3 => ?_))
    refine pt_d (pt_1 (fun n d => r_istore (L' := [some (.ref 72), some (.int x1), some (.int x2), some (.int x3), some (.int x4), some (.int x5), some (.int x6), some (.int v3), u8, u9]) gx292_136 rfl rfl) ?_)
    refine pt_d (pt_1 (fun n d => r_iload gx292_138 rfl) ?_)
    refine pt_d (pt_1 (fun n d => r_iload gx292_140 rfl) ?_)
    refine pt_d (pt_iconst gx292_142 (fun v4 h4 => ?_))
    refine pt_d (pt_iadd gx292_143 z5 h4 (fun v5 h5 => ?_))
    refine pt_d (pt_iconst gx292_144 (fun v6 h6 => ?_))
    refine pt_d (pt_idiv gx292_145 h5 h6 (fun v7 h7 => ?_))
    refine pt_d (pt_icmp_ge gx292_146 z6 h7 (fun e8 => ?_) (fun e8 => ?_))
    · have H := H.1 e8
      refine pt_d (pt_1 (fun n d => r_aloadn gx292_206 rfl) ?_)
      refine pt_d (pt_1 (fun n d => r_aloadn gx292_207 rfl) ?_)
      refine pt_d (pt_getI (B := 83) gx292_208 S (fun v9 h9 => ?_))
      refine pt_d (pt_ldc_w (c := 1103515245) gx292_211 rfl (fun v10 h10 => ?_))
      refine pt_d (pt_imul gx292_214 h9 h10 (fun v11 h11 => ?_))
      refine pt_d (pt_sipush gx292_215 (fun v12 h12 => ?_))
      refine pt_d (pt_iadd gx292_218 h11 h12 (fun v13 h13 => ?_))
      refine pt_d (pt_putI (B := 83) gx292_219 S h13 (fun h_14 S14 e14 => ?_))
      refine pt_d (pt_1 (fun n d => r_aloadn gx292_222 rfl) ?_)
      refine pt_d (pt_getI (B := 83) gx292_223 S14 (fun v15 h15 => ?_))
      have h15 : v15.toInt = w32 ((w32 ((vw h 72 83) * 1103515245)) + 12345) := by rw [h15, e14, up_s]
      refine pt_d (pt_bipush gx292_226 (fun v16 h16 => ?_))
      refine pt_d (pt_iushr gx292_228 h15 h16 (fun v17 h17 => ?_))
      refine pt_d (pt_1 (fun n d => r_iload gx292_229 rfl) ?_)
      refine pt_d (pt_1 (fun n d => r_iload gx292_231 rfl) ?_)
      refine pt_d (pt_isub gx292_233 z4 z6 (fun v18 h18 => ?_))
      refine pt_d (pt_irem gx292_234 h17 h18 (fun v19 h19 => ?_))
      refine pt_d (pt_1 (fun n d => r_istore (L' := [some (.ref 72), some (.int x1), some (.int x2), some (.int x3), some (.int x4), some (.int x5), some (.int x6), some (.int v3), some (.int v19), u9]) gx292_235 rfl rfl) ?_)
      refine pt_d (pt_iconst gx292_237 (fun v20 h20 => ?_))
      refine pt_d (pt_1 (fun n d => r_istore (L' := [some (.ref 72), some (.int x1), some (.int x2), some (.int x3), some (.int x4), some (.int x5), some (.int x6), some (.int v3), some (.int v19), some (.int v20)]) gx292_238 rfl rfl) ?_)
      have H := H h_14 S14 (by rw [e14])
      exact H v3 v19 v20 h3 h19 h20
    · have H := H.2 e8
      refine pt_d (pt_iconst gx292_149 (fun v21 h21 => ?_))
      refine pt_d (pt_1 (fun n d => r_istore (L' := [some (.ref 72), some (.int x1), some (.int x2), some (.int x3), some (.int x4), some (.int x5), some (.int x6), some (.int v3), some (.int v21), u9]) gx292_150 rfl rfl) ?_)
      exact H v3 v21 _ h3 h21
theorem d292_152 {n : Nat} {X : aX} {h : aH} {P : Int → aH → Prop} {x1 x2 x3 x4 x5 x6 x7 x8 : Int32} {a1 a2 a3 a4 a5 a6 a7 a8 : Int} {u9 : Option Value} (S : wS h) (z1 : x1.toInt = a1) (z2 : x2.toInt = a2) (z3 : x3.toInt = a3) (z4 : x4.toInt = a4) (z5 : x5.toInt = a5) (z6 : x6.toInt = a6) (z7 : x7.toInt = a7) (z8 : x8.toInt = a8) (H : ((vw h 72 2 ≤ a8 → (0 ≤ a7 → a7 < 150 → (0 ≤ a6 → a6 < 9 → ∀ h_7 : aH, wS h_7 → vw h_7 = up (up (vw h) 135 a7 (bAnd 0 1)) 134 a6 a7 → (∀ (w6 : Int32) (u7_ : Option Value) (u8_ : Option Value) (u9_ : Option Value), w6.toInt = w32 (a6 + 1) → Pt n X zM292 128 [some (.ref 72), some (.int x1), some (.int x2), some (.int x3), some (.int x4), some (.int x5), some (.int w6), u7_, u8_, u9_] [] h_7 (qI P))))) ∧ (a8 < vw h 72 2 → (0 ≤ a8 → a8 < 150 → ((vw h 135 a8 = 0 → (∀ (w8 : Int32) (u9_ : Option Value), w8.toInt = w32 (a8 + 1) → Pt n X zM292 152 [some (.ref 72), some (.int x1), some (.int x2), some (.int x3), some (.int x4), some (.int x5), some (.int x6), some (.int x7), some (.int w8), u9_] [] h (qI P))) ∧ (vw h 135 a8 ≠ 0 → ((a7 < 0 → (∀ (w8 : Int32) (u9_ : Option Value), w8.toInt = w32 (a8 + 1) → Pt n X zM292 152 [some (.ref 72), some (.int x1), some (.int x2), some (.int x3), some (.int x4), some (.int x5), some (.int x6), some (.int x8), some (.int w8), u9_] [] h (qI P))) ∧ (0 ≤ a7 → ∀ (y15 : Int) (h_15 : aH), (wS h_15 ∧ hk h h_15 ∧ TV h_15) → ∀ (y16 : Int) (h_16 : aH), (wS h_16 ∧ hk h_15 h_16 ∧ TV h_16) → ((y15 ≤ y16 → (∀ (w8 : Int32) (u9_ : Option Value), w8.toInt = w32 (a8 + 1) → Pt n X zM292 152 [some (.ref 72), some (.int x1), some (.int x2), some (.int x3), some (.int x4), some (.int x5), some (.int x6), some (.int x7), some (.int w8), u9_] [] h_16 (qI P))) ∧ (y16 < y15 → (∀ (w8 : Int32) (u9_ : Option Value), w8.toInt = w32 (a8 + 1) → Pt n X zM292 152 [some (.ref 72), some (.int x1), some (.int x2), some (.int x3), some (.int x4), some (.int x5), some (.int x6), some (.int x8), some (.int w8), u9_] [] h_16 (qI P)))))))))))) : Pt (n + 1) X zM292 152 [some (.ref 72), some (.int x1), some (.int x2), some (.int x3), some (.int x4), some (.int x5), some (.int x6), some (.int x7), some (.int x8), u9] [] h (qI P) := by
  refine pt_1 (fun n d => r_iload gx292_152 rfl) ?_
  refine pt_d (pt_1 (fun n d => r_aloadn gx292_154 rfl) ?_)
  refine pt_d (pt_getI (B := 2) gx292_155 S (fun v1 h1 => ?_))
  refine pt_d (pt_icmp_ge gx292_158 z8 h1 (fun e2 => ?_) (fun e2 => ?_))
  · have H := H.1 e2
    refine pt_d (pt_1 (fun n d => r_goto gx292_203) ?_)
    refine pt_d (pt_1 (fun n d => r_aloadn gx292_285 rfl) ?_)
    refine pt_d (pt_getR gx292_286 S tr_72_86 ?_)
    refine pt_d (pt_1 (fun n d => r_iload gx292_289 rfl) ?_)
    refine pt_d (pt_iconst gx292_291 (fun v4 h4 => ?_))
    refine pt_d (pt_zast (N' := 150) gx292_292 S tl_135 z7 h4 (fun h_5 S5 p5 q5 e5 => ?_))
    have H := H p5 q5
    refine pt_d (pt_1 (fun n d => r_aloadn gx292_293 rfl) ?_)
    refine pt_d (pt_getR gx292_294 S5 tr_72_85 ?_)
    refine pt_d (pt_1 (fun n d => r_iload gx292_297 rfl) ?_)
    refine pt_d (pt_1 (fun n d => r_iload gx292_299 rfl) ?_)
    refine pt_d (pt_iast (N' := 9) gx292_301 S5 tl_134 z6 z7 (fun h_7 S7 p7 q7 e7 => ?_))
    have H := H p7 q7
    refine pt_d (pt_iinc (c := 1) gx292_302 rfl z6 (fun v8 h8 => ?_))
    show Pt _ _ _ _ [some (.ref 72), some (.int x1), some (.int x2), some (.int x3), some (.int x4), some (.int x5), some (.int v8), some (.int x7), some (.int x8), u9] [] _ _
    refine pt_d (pt_1 (fun n d => r_goto gx292_305) ?_)
    have H := H h_7 S7 (by rw [e7, e5])
    exact H v8 _ _ _ h8
  · have H := H.2 e2
    refine pt_d (pt_1 (fun n d => r_aloadn gx292_161 rfl) ?_)
    refine pt_d (pt_getR gx292_162 S tr_72_86 ?_)
    refine pt_d (pt_1 (fun n d => r_iload gx292_165 rfl) ?_)
    refine pt_d (pt_zald (N' := 150) gx292_167 S tl_135 z8 (fun v10 p10 q10 h10 => ?_))
    have H := H p10 q10
    refine pt_d (pt_if_eq gx292_168 h10 (fun e11 => ?_) (fun e11 => ?_))
    · have H := H.1 e11
      refine pt_d (pt_iinc (c := 1) gx292_197 rfl z8 (fun v12 h12 => ?_))
      show Pt _ _ _ _ [some (.ref 72), some (.int x1), some (.int x2), some (.int x3), some (.int x4), some (.int x5), some (.int x6), some (.int x7), some (.int v12), u9] [] _ _
      refine pt_d (pt_1 (fun n d => r_goto gx292_200) ?_)
      exact H v12 _ h12
    · have H := H.2 e11
      refine pt_d (pt_1 (fun n d => r_iload gx292_171 rfl) ?_)
      refine pt_d (pt_if_lt gx292_173 z7 (fun e13 => ?_) (fun e13 => ?_))
      · have H := H.1 e13
        refine pt_d (pt_1 (fun n d => r_iload gx292_193 rfl) ?_)
        refine pt_d (pt_1 (fun n d => r_istore (L' := [some (.ref 72), some (.int x1), some (.int x2), some (.int x3), some (.int x4), some (.int x5), some (.int x6), some (.int x8), some (.int x8), u9]) gx292_195 rfl rfl) ?_)
        refine pt_d (pt_iinc (c := 1) gx292_197 rfl z8 (fun v14 h14 => ?_))
        show Pt _ _ _ _ [some (.ref 72), some (.int x1), some (.int x2), some (.int x3), some (.int x4), some (.int x5), some (.int x6), some (.int x8), some (.int v14), u9] [] _ _
        refine pt_d (pt_1 (fun n d => r_goto gx292_200) ?_)
        exact H v14 _ h14
      · have H := H.2 e13
        refine pt_d (pt_1 (fun n d => r_aloadn gx292_176 rfl) ?_)
        refine pt_d (pt_1 (fun n d => r_iload gx292_177 rfl) ?_)
        refine pt_d (pt_1 (fun n d => r_iloadn gx292_179 rfl) ?_)
        refine pt_d (pt_virt (as := [.int x8, .int x2]) (r := []) gx292_180 rfl (show zmt[293]? = some zM293 from rfl) rfl rfl rfl rfl (uk_293 S z8 z2 trivial) (kqI (fun v15 y15 h_15 h15 P15 => ?_)))
        have S15 := P15.1
        have H := H y15 h_15 P15
        show Pt _ _ _ 183 _ [.int v15] _ _
        refine pt_d (pt_1 (fun n d => r_aloadn gx292_183 rfl) ?_)
        refine pt_d (pt_1 (fun n d => r_iload gx292_184 rfl) ?_)
        refine pt_d (pt_1 (fun n d => r_iloadn gx292_186 rfl) ?_)
        refine pt_d (pt_virt (as := [.int x7, .int x2]) (r := [.int v15]) gx292_187 rfl (show zmt[293]? = some zM293 from rfl) rfl rfl rfl rfl (uk_293 S15 z7 z2 trivial) (kqI (fun v16 y16 h_16 h16 P16 => ?_)))
        have S16 := P16.1
        have H := H y16 h_16 P16
        show Pt _ _ _ 190 _ [.int v16, .int v15] _ _
        refine pt_d (pt_icmp_le gx292_190 h15 h16 (fun e17 => ?_) (fun e17 => ?_))
        · have H := H.1 e17
          refine pt_d (pt_iinc (c := 1) gx292_197 rfl z8 (fun v18 h18 => ?_))
          show Pt _ _ _ _ [some (.ref 72), some (.int x1), some (.int x2), some (.int x3), some (.int x4), some (.int x5), some (.int x6), some (.int x7), some (.int v18), u9] [] _ _
          refine pt_d (pt_1 (fun n d => r_goto gx292_200) ?_)
          exact H v18 _ h18
        · have H := H.2 e17
          refine pt_d (pt_1 (fun n d => r_iload gx292_193 rfl) ?_)
          refine pt_d (pt_1 (fun n d => r_istore (L' := [some (.ref 72), some (.int x1), some (.int x2), some (.int x3), some (.int x4), some (.int x5), some (.int x6), some (.int x8), some (.int x8), u9]) gx292_195 rfl rfl) ?_)
          refine pt_d (pt_iinc (c := 1) gx292_197 rfl z8 (fun v19 h19 => ?_))
          show Pt _ _ _ _ [some (.ref 72), some (.int x1), some (.int x2), some (.int x3), some (.int x4), some (.int x5), some (.int x6), some (.int x8), some (.int v19), u9] [] _ _
          refine pt_d (pt_1 (fun n d => r_goto gx292_200) ?_)
          exact H v19 _ h19
theorem d292_240 {n : Nat} {X : aX} {h : aH} {P : Int → aH → Prop} {x1 x2 x3 x4 x5 x6 x7 x8 x9 : Int32} {a1 a2 a3 a4 a5 a6 a7 a8 a9 : Int} (S : wS h) (z1 : x1.toInt = a1) (z2 : x2.toInt = a2) (z3 : x3.toInt = a3) (z4 : x4.toInt = a4) (z5 : x5.toInt = a5) (z6 : x6.toInt = a6) (z7 : x7.toInt = a7) (z8 : x8.toInt = a8) (z9 : x9.toInt = a9) (H : ((vw h 72 2 ≤ a9 → (0 ≤ a7 → a7 < 150 → (0 ≤ a6 → a6 < 9 → ∀ h_7 : aH, wS h_7 → vw h_7 = up (up (vw h) 135 a7 (bAnd 0 1)) 134 a6 a7 → (∀ (w6 : Int32) (u7_ : Option Value) (u8_ : Option Value) (u9_ : Option Value), w6.toInt = w32 (a6 + 1) → Pt n X zM292 128 [some (.ref 72), some (.int x1), some (.int x2), some (.int x3), some (.int x4), some (.int x5), some (.int w6), u7_, u8_, u9_] [] h_7 (qI P))))) ∧ (a9 < vw h 72 2 → ((0 ≤ a7 → (0 ≤ a7 → a7 < 150 → (0 ≤ a6 → a6 < 9 → ∀ h_14 : aH, wS h_14 → vw h_14 = up (up (vw h) 135 a7 (bAnd 0 1)) 134 a6 a7 → (∀ (w6 : Int32) (u7_ : Option Value) (u8_ : Option Value) (u9_ : Option Value), w6.toInt = w32 (a6 + 1) → Pt n X zM292 128 [some (.ref 72), some (.int x1), some (.int x2), some (.int x3), some (.int x4), some (.int x5), some (.int w6), u7_, u8_, u9_] [] h_14 (qI P))))) ∧ (a7 < 0 → (0 ≤ a9 → a9 < 150 → ((vw h 135 a9 ≠ 0 → ((a8 ≠ 0 → (∀ (w8 : Int32) (w9 : Int32), w8.toInt = w32 (a8 + (-1)) → w9.toInt = w32 (a9 + 1) → Pt n X zM292 240 [some (.ref 72), some (.int x1), some (.int x2), some (.int x3), some (.int x4), some (.int x5), some (.int x6), some (.int x7), some (.int w8), some (.int w9)] [] h (qI P))) ∧ (a8 = 0 → (∀ (w8 : Int32) (w9 : Int32), w8.toInt = w32 (a8 + (-1)) → w9.toInt = w32 (a9 + 1) → Pt n X zM292 240 [some (.ref 72), some (.int x1), some (.int x2), some (.int x3), some (.int x4), some (.int x5), some (.int x6), some (.int x9), some (.int w8), some (.int w9)] [] h (qI P))))) ∧ (vw h 135 a9 = 0 → (∀ (w9 : Int32), w9.toInt = w32 (a9 + 1) → Pt n X zM292 240 [some (.ref 72), some (.int x1), some (.int x2), some (.int x3), some (.int x4), some (.int x5), some (.int x6), some (.int x7), some (.int x8), some (.int w9)] [] h (qI P)))))))))) : Pt (n + 1) X zM292 240 [some (.ref 72), some (.int x1), some (.int x2), some (.int x3), some (.int x4), some (.int x5), some (.int x6), some (.int x7), some (.int x8), some (.int x9)] [] h (qI P) := by
  refine pt_1 (fun n d => r_iload gx292_240 rfl) ?_
  refine pt_d (pt_1 (fun n d => r_aloadn gx292_242 rfl) ?_)
  refine pt_d (pt_getI (B := 2) gx292_243 S (fun v1 h1 => ?_))
  refine pt_d (pt_icmp_ge gx292_246 z9 h1 (fun e2 => ?_) (fun e2 => ?_))
  · have H := H.1 e2
    refine pt_d (pt_1 (fun n d => r_aloadn gx292_285 rfl) ?_)
    refine pt_d (pt_getR gx292_286 S tr_72_86 ?_)
    refine pt_d (pt_1 (fun n d => r_iload gx292_289 rfl) ?_)
    refine pt_d (pt_iconst gx292_291 (fun v4 h4 => ?_))
    refine pt_d (pt_zast (N' := 150) gx292_292 S tl_135 z7 h4 (fun h_5 S5 p5 q5 e5 => ?_))
    have H := H p5 q5
    refine pt_d (pt_1 (fun n d => r_aloadn gx292_293 rfl) ?_)
    refine pt_d (pt_getR gx292_294 S5 tr_72_85 ?_)
    refine pt_d (pt_1 (fun n d => r_iload gx292_297 rfl) ?_)
    refine pt_d (pt_1 (fun n d => r_iload gx292_299 rfl) ?_)
    refine pt_d (pt_iast (N' := 9) gx292_301 S5 tl_134 z6 z7 (fun h_7 S7 p7 q7 e7 => ?_))
    have H := H p7 q7
    refine pt_d (pt_iinc (c := 1) gx292_302 rfl z6 (fun v8 h8 => ?_))
    show Pt _ _ _ _ [some (.ref 72), some (.int x1), some (.int x2), some (.int x3), some (.int x4), some (.int x5), some (.int v8), some (.int x7), some (.int x8), some (.int x9)] [] _ _
    refine pt_d (pt_1 (fun n d => r_goto gx292_305) ?_)
    have H := H h_7 S7 (by rw [e7, e5])
    exact H v8 _ _ _ h8
  · have H := H.2 e2
    refine pt_d (pt_1 (fun n d => r_iload gx292_249 rfl) ?_)
    refine pt_d (pt_if_ge gx292_251 z7 (fun e9 => ?_) (fun e9 => ?_))
    · have H := H.1 e9
      refine pt_d (pt_1 (fun n d => r_aloadn gx292_285 rfl) ?_)
      refine pt_d (pt_getR gx292_286 S tr_72_86 ?_)
      refine pt_d (pt_1 (fun n d => r_iload gx292_289 rfl) ?_)
      refine pt_d (pt_iconst gx292_291 (fun v11 h11 => ?_))
      refine pt_d (pt_zast (N' := 150) gx292_292 S tl_135 z7 h11 (fun h_12 S12 p12 q12 e12 => ?_))
      have H := H p12 q12
      refine pt_d (pt_1 (fun n d => r_aloadn gx292_293 rfl) ?_)
      refine pt_d (pt_getR gx292_294 S12 tr_72_85 ?_)
      refine pt_d (pt_1 (fun n d => r_iload gx292_297 rfl) ?_)
      refine pt_d (pt_1 (fun n d => r_iload gx292_299 rfl) ?_)
      refine pt_d (pt_iast (N' := 9) gx292_301 S12 tl_134 z6 z7 (fun h_14 S14 p14 q14 e14 => ?_))
      have H := H p14 q14
      refine pt_d (pt_iinc (c := 1) gx292_302 rfl z6 (fun v15 h15 => ?_))
      show Pt _ _ _ _ [some (.ref 72), some (.int x1), some (.int x2), some (.int x3), some (.int x4), some (.int x5), some (.int v15), some (.int x7), some (.int x8), some (.int x9)] [] _ _
      refine pt_d (pt_1 (fun n d => r_goto gx292_305) ?_)
      have H := H h_14 S14 (by rw [e14, e12])
      exact H v15 _ _ _ h15
    · have H := H.2 e9
      refine pt_d (pt_1 (fun n d => r_aloadn gx292_254 rfl) ?_)
      refine pt_d (pt_getR gx292_255 S tr_72_86 ?_)
      refine pt_d (pt_1 (fun n d => r_iload gx292_258 rfl) ?_)
      refine pt_d (pt_zald (N' := 150) gx292_260 S tl_135 z9 (fun v17 p17 q17 h17 => ?_))
      have H := H p17 q17
      refine pt_d (pt_if_ne gx292_261 h17 (fun e18 => ?_) (fun e18 => ?_))
      · have H := H.1 e18
        refine pt_d (pt_1 (fun n d => r_iload gx292_267 rfl) ?_)
        refine pt_d (pt_if_ne gx292_269 z8 (fun e19 => ?_) (fun e19 => ?_))
        · have H := H.1 e19
          refine pt_d (pt_iinc (c := (-1)) gx292_276 rfl z8 (fun v20 h20 => ?_))
          show Pt _ _ _ _ [some (.ref 72), some (.int x1), some (.int x2), some (.int x3), some (.int x4), some (.int x5), some (.int x6), some (.int x7), some (.int v20), some (.int x9)] [] _ _
          refine pt_d (pt_iinc (c := 1) gx292_279 rfl z9 (fun v21 h21 => ?_))
          show Pt _ _ _ _ [some (.ref 72), some (.int x1), some (.int x2), some (.int x3), some (.int x4), some (.int x5), some (.int x6), some (.int x7), some (.int v20), some (.int v21)] [] _ _
          refine pt_d (pt_1 (fun n d => r_goto gx292_282) ?_)
          exact H v20 v21 h20 h21
        · have H := H.2 e19
          refine pt_d (pt_1 (fun n d => r_iload gx292_272 rfl) ?_)
          refine pt_d (pt_1 (fun n d => r_istore (L' := [some (.ref 72), some (.int x1), some (.int x2), some (.int x3), some (.int x4), some (.int x5), some (.int x6), some (.int x9), some (.int x8), some (.int x9)]) gx292_274 rfl rfl) ?_)
          refine pt_d (pt_iinc (c := (-1)) gx292_276 rfl z8 (fun v22 h22 => ?_))
          show Pt _ _ _ _ [some (.ref 72), some (.int x1), some (.int x2), some (.int x3), some (.int x4), some (.int x5), some (.int x6), some (.int x9), some (.int v22), some (.int x9)] [] _ _
          refine pt_d (pt_iinc (c := 1) gx292_279 rfl z9 (fun v23 h23 => ?_))
          show Pt _ _ _ _ [some (.ref 72), some (.int x1), some (.int x2), some (.int x3), some (.int x4), some (.int x5), some (.int x6), some (.int x9), some (.int v22), some (.int v23)] [] _ _
          refine pt_d (pt_1 (fun n d => r_goto gx292_282) ?_)
          exact H v22 v23 h22 h23
      · have H := H.2 e18
        refine pt_d (pt_1 (fun n d => r_goto gx292_264) ?_)
        refine pt_d (pt_iinc (c := 1) gx292_279 rfl z9 (fun v24 h24 => ?_))
        show Pt _ _ _ _ [some (.ref 72), some (.int x1), some (.int x2), some (.int x3), some (.int x4), some (.int x5), some (.int x6), some (.int x7), some (.int x8), some (.int v24)] [] _ _
        refine pt_d (pt_1 (fun n d => r_goto gx292_282) ?_)
        exact H v24 h24
def P292 (V : vS) (land y b : Int) : Prop := (mFarm V b ∧ V 74 b = land) ∧ ∃ c, (0 ≤ c ∧ c < V 72 19) ∧ (V 103 c ≠ 0 ∧ V 87 c = b ∧ iDiv (V 90 c) 365 = y)
theorem l_292b {X : aX} {m : Int} (hm : m ≤ 1000) : ∀ n : Nat, (∀ (h : aH) (x1 x2 x3 x4 x5 x6 : Int32) (u7 u8 u9 : Option Value), wS h → x5.toInt = m → Pt n X zM292 128 [some (.ref 72), some (.int x1), some (.int x2), some (.int x3), some (.int x4), some (.int x5), some (.int x6), u7, u8, u9] [] h (qI (fun r _ => r = m))) ∧
    (∀ (h : aH) (x1 x2 x3 x4 x5 x6 x7 x8 : Int32) (u9 : Option Value), wS h → x5.toInt = m → Pt n X zM292 152 [some (.ref 72), some (.int x1), some (.int x2), some (.int x3), some (.int x4), some (.int x5), some (.int x6), some (.int x7), some (.int x8), u9] [] h (qI (fun r _ => r = m))) ∧
    (∀ (h : aH) (x1 x2 x3 x4 x5 x6 x7 x8 x9 : Int32), wS h → x5.toInt = m → Pt n X zM292 240 [some (.ref 72), some (.int x1), some (.int x2), some (.int x3), some (.int x4), some (.int x5), some (.int x6), some (.int x7), some (.int x8), some (.int x9)] [] h (qI (fun r _ => r = m))) := by
  intro n
  induction n with
  | zero => exact ⟨by intros; exact pt_z, by intros; exact pt_z, by intros; exact pt_z⟩
  | succ n ih =>
    obtain ⟨a, b, c⟩ := ih
    refine ⟨fun h x1 x2 x3 x4 x5 x6 u7 u8 u9 S h5 => ?_, fun h x1 x2 x3 x4 x5 x6 x7 x8 u9 S h5 => ?_, fun h x1 x2 x3 x4 x5 x6 x7 x8 x9 S h5 => ?_⟩
    · exact d292_128 S rfl rfl rfl rfl h5 rfl ⟨fun _ _ _ _ => rfl, fun _ => ⟨fun _ g S2 _ w7 w8 w9 _ _ _ => c g _ _ _ _ _ _ _ _ _ S2 h5, fun _ w7 w8 u _ _ => b h _ _ _ _ _ _ _ _ _ S h5⟩⟩
    · exact d292_152 S rfl rfl rfl rfl h5 rfl rfl rfl ⟨fun _ _ _ _ _ g S2 _ w6 u7 u8 u9 _ => a g _ _ _ _ _ _ _ _ _ S2 h5, fun _ _ _ => ⟨fun _ w8 u _ => b h _ _ _ _ _ _ _ _ _ S h5, fun _ => ⟨fun _ w8 u _ => b h _ _ _ _ _ _ _ _ _ S h5, fun _ y15 g15 R15 y16 g16 R16 => ⟨fun _ w8 u _ => b g16 _ _ _ _ _ _ _ _ _ R16.1 h5, fun _ w8 u _ => b g16 _ _ _ _ _ _ _ _ _ R16.1 h5⟩⟩⟩⟩
    · exact d292_240 S rfl rfl rfl rfl h5 rfl rfl rfl rfl ⟨fun _ _ _ _ _ g S2 _ w6 u7 u8 u9 _ => a g _ _ _ _ _ _ _ _ _ S2 h5, fun _ => ⟨fun _ _ _ _ _ g S2 _ w6 u7 u8 u9 _ => a g _ _ _ _ _ _ _ _ _ S2 h5, fun _ _ _ => ⟨fun _ => ⟨fun _ w8 w9 _ _ => c h _ _ _ _ _ _ _ _ _ S h5, fun _ w8 w9 _ _ => c h _ _ _ _ _ _ _ _ _ S h5⟩, fun _ w9 _ => c h _ _ _ _ _ _ _ _ _ S h5⟩⟩⟩
theorem bA_01 : bAnd 0 1 = 0 := by decide
theorem bA_11 : bAnd 1 1 = 1 := by decide
theorem l_292 {X : aX} {V : vS} {land y nn : Int} (hn : 0 ≤ V 72 2 ∧ V 72 2 ≤ 150) (hN : 0 ≤ V 72 19 ∧ V 72 19 ≤ 300) (h9 : nn ≤ 9) : ∀ (n : Nat) (h : aH) (x1 x2 x3 x4 x5 : Int32) (k : Nat), wS h → x1.toInt = land → x2.toInt = y → x3.toInt = nn → x4.toInt = nQ (P292 V land y) k → x5.toInt = (k : Int) → (k : Int) ≤ V 72 2 → (∀ (c : Nat) j, c ≠ 135 → vw h c j = V c j) → Pt n X zM292 40 [some (.ref 72), some (.int x1), some (.int x2), some (.int x3), some (.int x4), some (.int x5), none, none, none, none] [] h (qI (fun r _ => r = min nn (nQ (P292 V land y) (V 72 2).toNat))) := by
  intro n
  induction n with
  | zero => intros; exact pt_z
  | succ n ih =>
    intro h x1 x2 x3 x4 x5 k S h1 h2 h3 h4 h5 hk' F
    have b := nQ_b (P292 V land y) k
    have n1 := F 72 2 (by decide)
    have cf : mFarm (vw h) (k : Nat) ↔ mFarm V (k : Nat) := by
      unfold mFarm mBody
      rw [n1, F 73 _ (by decide)]
    have ex : (∃ c, (0 ≤ c ∧ c < vw h 72 19) ∧ (vw h 103 c ≠ 0 ∧ vw h 87 c = (k : Nat) ∧ iDiv (vw h 90 c) 365 = y)) ↔ ∃ c, (0 ≤ c ∧ c < V 72 19) ∧ (V 103 c ≠ 0 ∧ V 87 c = (k : Nat) ∧ iDiv (V 90 c) 365 = y) := by
      simp only [F 72 _ (by decide), F 103 _ (by decide), F 87 _ (by decide), F 90 _ (by decide)]
    have e74 := F 74 (k : Nat) (by decide)
    have next : (k : Int) < vw h 72 2 → ∀ (d : Int), (d = 0 ∧ ¬ P292 V land y (k : Nat) ∨ d = 1 ∧ P292 V land y (k : Nat)) → ∀ (g : aH) (v : Int) (w4 w5 : Int32), wS g → vw g = up (vw h) 135 (k : Nat) v → w4.toInt = w32 (nQ (P292 V land y) k + d) → w5.toInt = w32 ((k : Int) + 1) → Pt n X zM292 40 [some (.ref 72), some (.int x1), some (.int x2), some (.int x3), some (.int w4), some (.int w5), none, none, none, none] [] g (qI (fun r _ => r = min nn (nQ (P292 V land y) (V 72 2).toNat))) := by
      intro e d D g v w4 w5 S2 eg g4 g5
      replace g5 := w_1 g5 (by omega) (by omega)
      replace g4 := w_1 g4 (by omega) (by omega)
      refine ih g x1 x2 x3 w4 w5 (k + 1) S2 h1 h2 h3 ?_ (by omega) (by omega) (fun c j nc => by rw [eg, up_c nc]; exact F c j nc)
      rcases D with ⟨d0, z⟩ | ⟨d1, z⟩
      · rw [g4, nQ_f z, d0]
      · rw [g4, nQ_t z, d1]
    refine d292_40 S h1 h2 h3 h4 h5 ⟨fun e w5 w6 u7 u8 u9 g5 g6 => ?_, fun e => ⟨fun z _ _ => ⟨fun _ g S2 eg w4 w5 g4 g5 => next e 0 (Or.inl ⟨rfl, fun w => z (cf.mpr w.1.1)⟩) g _ w4 w5 S2 eg g4 g5, fun w => absurd bA_01 w⟩, fun z _ _ => ⟨fun z2 => ⟨fun _ g S2 eg w4 w5 g4 g5 => next e 0 (Or.inl ⟨rfl, fun w => z2 (by rw [e74]; exact w.1.2)⟩) g _ w4 w5 S2 eg g4 g5, fun w => absurd bA_01 w⟩, fun z2 => ⟨by rw [F 72 19 (by decide)]; exact hN, fun z3 => ⟨fun _ g S2 eg w4 w5 g4 g5 => next e 0 (Or.inl ⟨rfl, fun w => z3 (ex.mpr w.2)⟩) g _ w4 w5 S2 eg g4 g5, fun w => absurd bA_01 w⟩, fun z3 => ⟨fun w => absurd (bA_11.symm.trans w) (by decide), fun _ g S2 eg w4 w5 g4 g5 => next e 1 (Or.inr ⟨rfl, ⟨cf.mp z, by rw [← e74]; exact z2⟩, ex.mp z3⟩) g _ w4 w5 S2 eg g4 g5⟩⟩⟩⟩⟩
    · have en : (V 72 2).toNat = k := by omega
      rw [en]
      exact (l_292b (m := min nn (nQ (P292 V land y) k)) (by omega) n).1 h x1 x2 x3 x4 w5 w6 u7 u8 u9 S g5
def R292 (V : vS) (l y n r : Int) : Prop := (¬ okDr l y n ∧ r = -1) ∨ (okDr l y n ∧ ∃ W, R239 V (V 72 1) W ∧ r = min n (nQ (P292 W l y) (W 72 2).toNat))
theorem c_292w {n : Nat} {X : aX} {h : aH} {x1 x2 x3 : Int32} {a1 a2 a3 : Int} (S : wS h) (z1 : x1.toInt = a1) (z2 : x2.toInt = a2) (z3 : x3.toInt = a3) (I : IV h) : Pt n X zM292 0 [some (.ref 72), some (.int x1), some (.int x2), some (.int x3), none, none, none, none, none, none] [] h (qI (fun r h' => (0 ≤ vw h 72 2 ∧ vw h 72 2 ≤ 150 → R292 (vw h) a1 a2 a3 r) ∧ IV h')) := by
  have c : 0 ≤ vw h 72 2 ∧ vw h 72 2 ≤ 150 → Pt n X zM292 0 [some (.ref 72), some (.int x1), some (.int x2), some (.int x3), none, none, none, none, none, none] [] h (qI (fun r _ => R292 (vw h) a1 a2 a3 r)) := fun hn => by
    refine pt_d (d292_0 S z1 z2 z3 ⟨fun e => Or.inl ⟨fun z => e z.1, rfl⟩, fun e1 => ⟨fun e => Or.inl ⟨fun z => e z.2.1, rfl⟩, fun e2 => ⟨fun e3 => ⟨I.2.2.2, fun g R w4 w5 g4 g5 => ?_⟩, fun e => Or.inl ⟨fun z => e z.2.2, rfl⟩⟩⟩⟩)
    obtain ⟨S2, R⟩ := R
    have A := R.1.1
    refine pt_q (l_292 (V := vw g) (land := a1) (y := a2) (nn := a3) (by rw [agR_y A (by decide) (by decide)]; exact hn) (by rw [agR_y A (by decide) (by decide)]; exact I.2.2.2.1) e3.2 n g x1 x2 x3 w4 w5 0 S2 z1 z2 z3 g4 g5 (by rw [agR_y A (by decide) (by decide)]; exact hn.1) (fun _ _ _ => rfl)) ?_
    rintro v h' ⟨x, ev, r⟩
    exact ⟨x, ev, Or.inr ⟨⟨e1, e2, e3⟩, vw g, R, r⟩⟩
  by_cases hn : 0 ≤ vw h 72 2 ∧ vw h 72 2 ≤ 150
  · refine pt_q (pt_and (c hn) (wk_292 S z1 z2 z3 I)) ?_
    rintro v h' ⟨⟨x, ev, r⟩, ⟨x', -, -, -, I'⟩⟩
    exact ⟨x, ev, fun _ => r, I'⟩
  · refine pt_q (wk_292 S z1 z2 z3 I) ?_
    rintro v h' ⟨x', ev, -, -, I'⟩
    exact ⟨x', ev, fun z => absurd z hn, I'⟩
end
section
-- ===== the draw =====
theorem dyf_le {x t r t' : Int32} (h : dyf x t r t') : t.toInt ≤ t'.toInt := by
  rcases h with ⟨a, -, -, e, -⟩ | ⟨-, e, -⟩
  · omega
  · rw [e]
    exact Int.le_refl _
def frC (W : List (Nat × Nat)) : Bool := W.all (fun t => Nat.blt t.1 72 || Nat.blt 110 t.1)
theorem frC_n {W : List (Nat × Nat)} (k : frC W = true) {r i : Nat} (hr : 72 ≤ r ∧ r ≤ 110) : cWn W r i = false := by
  unfold cWn
  rw [List.any_eq_false]
  intro t ht
  unfold frC at k
  rw [List.all_eq_true] at k
  have n := k t ht
  simp only [Bool.or_eq_true, Nat.blt_eq] at n
  intro z
  simp only [Bool.and_eq_true] at z
  have e := Nat.eq_of_beq_eq_true z.1
  omega
theorem fr_dG {W : List (Nat × Nat)} {σ σ1 : List Nat} {h h1 : aH} (I : dI σ h) (G : dG W σ h σ1 h1) (k : frC W = true) : ∀ (c : Nat) j, 72 ≤ c → c ≤ 110 → vw h1 c j = vw h c j := fun c j u v => vw_un I G (I.1.2.2.2 c (by omega)) (fun i => frC_n k ⟨u, v⟩) j
theorem lat_e {V : vS} {q : Nat} {y k f : Int} (A : AP V) (S : scK V q y k) (hf : 0 ≤ f ∧ f < 150) : isMx (fun c => (0 ≤ c ∧ c < V 72 19) ∧ LkM V k y c ∧ V 87 c = f) (V (q + 7) f) := by
  have E := A.1
  obtain ⟨C, B, Od, hd, -⟩ := E
  obtain ⟨-, L, -, -, -, T⟩ := S
  obtain ⟨-, -, m1, m2, m3⟩ := T f hf.1 hf.2
  have e : ∀ c, tmS V q f (V q 5) c ↔ ((0 ≤ c ∧ c < V 72 19) ∧ LkM V k y c ∧ V 87 c = f) := fun c => by
    constructor
    · rintro ⟨i, ⟨i0, iN⟩, ef, ec⟩
      obtain ⟨p, pN, zc, ci, e⟩ := li_s L i0 iN
      have m0 := Od.1 (p : Nat) (by omega) pN
      have l0 := (cnt_l C B Od hd (by omega) pN).mp zc
      rw [← e, ec] at m0 l0
      unfold fmA at ef
      rw [ec, C.2.1] at ef
      exact ⟨⟨m0.1, by rw [← C.1]; exact m0.2⟩, l0, ef⟩
    · rintro ⟨n, l, ef⟩
      obtain ⟨p, pN, z, e, lt, s⟩ := li_m C B Od hd L n.1 n.2 l
      refine ⟨((cnN V y k p : Nat) : Int), ⟨by omega, lt⟩, ?_, s⟩
      unfold fmA
      rw [s, C.2.1]
      exact ef
  exact ⟨m1, m2.imp id (fun z => (e _).mp z), fun c hc => m3 c ((e c).mpr hc)⟩
theorem lat_n1 {V : vS} {q : Nat} {y k f : Int} (A : AP V) (S : scK V q y k) (hf : 0 ≤ f ∧ f < 150) : V (q + 7) f ≠ -1 ↔ ∃ c, (0 ≤ c ∧ c < V 72 19) ∧ LkM V k y c ∧ V 87 c = f := by
  obtain ⟨m1, m2, m3⟩ := lat_e A S hf
  constructor
  · intro z
    rcases m2 with m2 | m2
    · exact absurd m2 z
    · exact ⟨_, m2⟩
  · rintro ⟨c, hc⟩ z
    have := m3 c hc
    have := hc.1.1
    omega
theorem jx_34 {h h1 h2 : aH} {l y n r1 r2 : Int} (I0 : IV h) (A : AP (vw h)) (fr : ∀ (c : Nat) j, 72 ≤ c → c ≤ 110 → vw h1 c j = vw h c j) (hd : vw h 1 0 = vw h 72 1) (c : R178 h l y n r1 ∧ IV h1) (m : (0 ≤ vw h1 72 2 ∧ vw h1 72 2 ≤ 150 → R292 (vw h1) l y n r2) ∧ IV h2) : (JSea (vw h2) ∧ JRk (vw h2)) ∧ r1 = r2 := by
  refine ⟨⟨JSea_IV m.2, rOK_IV m.2⟩, ?_⟩
  have B := A.1.2.1
  have b1 := B.2.2.2.2.2.1
  have b2 := B.2.2.2.2.2.2.1
  have n2 : vw h1 72 2 = vw h 1 1 := by rw [fr 72 2 (by decide) (by decide)]; exact B.1.symm
  have m := m.1 (by rw [n2]; exact ⟨b1, b2⟩)
  rcases c.1 with ⟨n, rfl⟩ | ⟨o, g', ⟨q, g, R, cn, -⟩, e1⟩
  · rcases m with ⟨-, rfl⟩ | ⟨o', -⟩
    · rfl
    · exact absurd o' n
  · rcases m with ⟨n, -⟩ | ⟨-, W, RR, e2⟩
    · exact absurd o n
    · have fg := R1_f R
      have Ag := AP_f A fg
      have Sc := R1_sc I0 R
      have k1 : vw h1 72 1 = vw h 1 0 := by rw [fr 72 1 (by decide) (by decide)]; exact hd.symm
      rw [k1] at RR
      have x : ∀ (c : Nat) j, 72 ≤ c → c ≤ 110 → vw h1 c j = vw g c j := fun c j u v => (fr c j u v).trans (fg c j (by omega) (by omega)).symm
      have AR := RR.1.1
      have M : agM (vw g) (vw h1) := ⟨fun c j u v => x c j (by omega) (by omega), x 72 _ (by decide) (by decide), x 72 _ (by decide) (by decide), x 72 _ (by decide) (by decide)⟩
      have x2 : ∀ (c : Nat) j, 72 < c → c < 103 → W c j = vw g c j := fun c j u v => (agR_x AR c j v (by omega)).trans (x c j (by omega) (by omega))
      have y2 : ∀ j, j ≠ 38 → j ≠ 39 → W 72 j = vw g 72 j := fun j u v => (agR_y AR u v).trans (x 72 j (by decide) (by decide))
      have Bg := Ag.1.2.1
      have g0 := Bg.2.2.2.2.2.1
      have g1 := Bg.2.2.2.2.2.2.1
      have PE : ∀ b, 0 ≤ b → b < vw g 1 1 → (P62 (vw g) q l b ↔ P292 W l y b) := fun b c0 c1 => by
        unfold P62 P292
        have fm : (cFarm (vw g) b ∧ vw g 3 b = l) ↔ (mFarm W b ∧ W 74 b = l) := by
          rw [farm_j Bg]
          unfold mFarm mBody
          rw [y2 2 (by decide) (by decide), x2 73 b (by decide) (by decide), x2 74 b (by decide) (by decide)]
          refine and_congr_right (fun w => ?_)
          rw [(Bg.2.2.2.2.2.2.2.2 b c0 c1).1 (((farm_j Bg b).mpr w).2)]
        have cl : vw g (q + 7) b ≠ -1 ↔ ∃ c, (0 ≤ c ∧ c < W 72 19) ∧ (W 103 c ≠ 0 ∧ W 87 c = b ∧ iDiv (W 90 c) 365 = y) := by
          rw [lat_n1 Ag Sc ⟨c0, by omega⟩]
          have e19 := y2 19 (by decide) (by decide)
          have rk' : ∀ c, 0 ≤ c → c < vw g 72 19 → (W 103 c ≠ 0 ↔ mcn (vw g) c (vw h 1 0)) := fun c u v => by
            rw [RR.1.2.2 c u (by rw [x 72 19 (by decide) (by decide)]; exact v), ← mcn_m M c]
            by_cases z : mcn (vw h1) c (vw h 1 0)
            · rw [bI_t z]
              exact ⟨fun _ => z, fun _ => by decide⟩
            · rw [bI_f z]
              exact ⟨fun w => absurd rfl w, fun w => absurd w z⟩
          constructor
          · rintro ⟨c, nc, lk, ef⟩
            exact ⟨c, by rw [e19]; exact nc, (rk' c nc.1 nc.2).mpr lk.1, by rw [x2 87 c (by decide) (by decide)]; exact ef, by rw [x2 90 c (by decide) (by decide)]; exact lk.2⟩
          · rintro ⟨c, nc, a, ef, ey⟩
            rw [e19] at nc
            rw [x2 87 c (by decide) (by decide)] at ef
            rw [x2 90 c (by decide) (by decide)] at ey
            exact ⟨c, nc, ⟨(rk' c nc.1 nc.2).mp a, ey⟩, ef⟩
        rw [fm, cl]
      have en : (W 72 2).toNat = (vw g 1 1).toNat := by rw [y2 2 (by decide) (by decide), ← Bg.1]
      rw [e1, e2, cn, en, nQ_c _ (fun j a b => PE j a (by omega))]
end

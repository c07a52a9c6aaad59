-- ===== the rate of errors =====
def P298 (V : vS) (y b : Int) : Prop := mFarm V b ∧ ∃ c, (0 ≤ c ∧ c < V 72 32) ∧ (V 98 c = b ∧ V 100 c = y)
def E298 (V : vS) (y b : Int) : Prop := 2 < mErr V b y
noncomputable def mUl (n x p w : Int) : Int := if w64 (100 * gSm (tCh (mWy n) n p) x n (n + 1).toNat) < w64 (w * pwF 100 n.toNat) then 1 else if w64 (100 * gSm (tCh (mWy n) n p) 0 x (x + 1).toNat) < w64 (w * pwF 100 n.toNat) then 2 else 0
noncomputable def m298 (V : vS) (y what pw : Int) (n : Nat) : Int := if what = 0 then nQ (P298 V y) n else if what = 1 then nQ (fun b => P298 V y b ∧ E298 V y b) n else mUl (min 8 (nQ (P298 V y) n)) (jX (P298 V y) (E298 V y) n) (iDiv pw 100) (iRem pw 100)
theorem l_298 {X : aX} {h : aH} {y what pw : Int} (S : wS h) (hn : 0 ≤ vw h 72 2 ∧ vw h 72 2 ≤ 150) (h32 : 0 ≤ vw h 72 32 ∧ vw h 72 32 ≤ 200) (hN : 0 ≤ vw h 72 19 ∧ vw h 72 19 ≤ 300) (hw : 0 ≤ what ∧ what ≤ 2) : ∀ (n : Nat) (x1 x2 x3 x4 x5 x6 x7 x8 : Int32) (u9 : Option Value) (k : Nat), x1.toInt = y → x2.toInt = what → x3.toInt = pw → x4.toInt = nQ (P298 (vw h) y) k → x5.toInt = nQ (fun b => P298 (vw h) y b ∧ E298 (vw h) y b) k → x6.toInt = min 8 (nQ (P298 (vw h) y) k) → x7.toInt = jX (P298 (vw h) y) (E298 (vw h) y) k → x8.toInt = (k : Int) → (k : Int) ≤ vw h 72 2 → Pt n X zM298 71 [some (.ref 72), some (.int x1), some (.int x2), some (.int x3), some (.int x4), some (.int x5), some (.int x6), some (.int x7), some (.int x8), u9] [] h (qI (fun r h' => h' = h ∧ r = m298 (vw h) y what pw (vw h 72 2).toNat)) := by
  intro n
  induction n with
  | zero => intros; exact pt_z
  | succ n ih =>
    intro x1 x2 x3 x4 x5 x6 x7 x8 u9 k h1 h2 h3 h4 h5 h6 h7 h8 hk
    have b1 := nQ_b (P298 (vw h) y) k
    have b2 := nQ_b (fun b => P298 (vw h) y b ∧ E298 (vw h) y b) k
    have b3 := jX_b (P := P298 (vw h) y) (E := E298 (vw h) y) k
    have skip : (k : Int) < vw h 72 2 → ¬ P298 (vw h) y (k : Nat) → ∀ (w8 : Int32) (u : Option Value), w8.toInt = w32 ((k : Int) + 1) → Pt n X zM298 71 [some (.ref 72), some (.int x1), some (.int x2), some (.int x3), some (.int x4), some (.int x5), some (.int x6), some (.int x7), some (.int w8), u] [] h (qI (fun r h' => h' = h ∧ r = m298 (vw h) y what pw (vw h 72 2).toNat)) := by
      intro e z w8 u g
      replace g := w_1 g (by omega) (by omega)
      refine ih x1 x2 x3 x4 x5 x6 x7 w8 u (k + 1) h1 h2 h3 ?_ ?_ ?_ ?_ (by omega) (by omega)
      · rw [nQ_f z, Int.add_zero]; exact h4
      · rw [nQ_f (P := fun b => P298 (vw h) y b ∧ E298 (vw h) y b) (fun w => z w.1), Int.add_zero]; exact h5
      · rw [nQ_f z, Int.add_zero]; exact h6
      · rw [jX_s, pI_f (fun w => z w.1.1), Int.add_zero]; exact h7
    have go : (k : Int) < vw h 72 2 → P298 (vw h) y (k : Nat) → ∀ (w4 w5 w6 w7 w8 : Int32) (u : Option Value), w4.toInt = w32 (nQ (P298 (vw h) y) k + 1) → w5.toInt = w32 (nQ (fun b => P298 (vw h) y b ∧ E298 (vw h) y b) k + bI (E298 (vw h) y (k : Nat))) → ((8 ≤ nQ (P298 (vw h) y) k ∧ w6 = x6 ∧ w7 = x7) ∨ (nQ (P298 (vw h) y) k < 8 ∧ w6.toInt = w32 (min 8 (nQ (P298 (vw h) y) k) + 1) ∧ w7.toInt = w32 (jX (P298 (vw h) y) (E298 (vw h) y) k + bI (E298 (vw h) y (k : Nat))))) → w8.toInt = w32 ((k : Int) + 1) → Pt n X zM298 71 [some (.ref 72), some (.int x1), some (.int x2), some (.int x3), some (.int w4), some (.int w5), some (.int w6), some (.int w7), some (.int w8), u] [] h (qI (fun r h' => h' = h ∧ r = m298 (vw h) y what pw (vw h 72 2).toNat)) := by
      intro e p w4 w5 w6 w7 w8 u g4 g5 t g
      replace g := w_1 g (by omega) (by omega)
      have bE := bI_b (E298 (vw h) y (k : Nat))
      rw [w32_id (by omega) (by omega)] at g4 g5
      have s4 : w4.toInt = nQ (P298 (vw h) y) (k + 1) := by rw [g4, nQ_t p]
      have s5 : w5.toInt = nQ (fun b => P298 (vw h) y b ∧ E298 (vw h) y b) (k + 1) := by
        rw [g5]
        by_cases z : E298 (vw h) y (k : Nat)
        · rw [bI_t z, nQ_t (P := fun b => P298 (vw h) y b ∧ E298 (vw h) y b) ⟨p, z⟩]
        · rw [bI_f z, nQ_f (P := fun b => P298 (vw h) y b ∧ E298 (vw h) y b) (fun w => z w.2)]
      refine ih x1 x2 x3 w4 w5 w6 w7 w8 u (k + 1) h1 h2 h3 s4 s5 ?_ ?_ (by omega) (by omega)
      · rw [nQ_t p]
        rcases t with ⟨ge, t6, -⟩ | ⟨lt, t6, -⟩
        · rw [t6, h6]
          omega
        · rw [t6, w32_id (by omega) (by omega)]
          omega
      · rcases t with ⟨ge, -, t7⟩ | ⟨lt, -, t7⟩
        · rw [t7, h7, jX_s, pI_f (fun w => by omega), Int.add_zero]
        · rw [t7, w32_id (by omega) (by omega), jX_s]
          by_cases z : E298 (vw h) y (k : Nat)
          · rw [bI_t z, pI_t ⟨⟨p, z⟩, lt⟩]
          · rw [bI_f z, pI_f (fun w => z w.1.2)]
    have pm : (0 ≤ min 8 (nQ (P298 (vw h) y) k) ∧ min 8 (nQ (P298 (vw h) y) k) ≤ 8) ∧ 0 ≤ jX (P298 (vw h) y) (E298 (vw h) y) k ∧ jX (P298 (vw h) y) (E298 (vw h) y) k ≤ min 8 (nQ (P298 (vw h) y) k) + 1 ∧ min 8 (nQ (P298 (vw h) y) k) ≤ min 8 (nQ (P298 (vw h) y) k) := ⟨by omega, b3.1, by omega, Int.le_refl _⟩
    have pm2 : (0 ≤ min 8 (nQ (P298 (vw h) y) k) ∧ min 8 (nQ (P298 (vw h) y) k) ≤ 8) ∧ (0 : Int) ≤ 0 ∧ 0 ≤ jX (P298 (vw h) y) (E298 (vw h) y) k + 1 ∧ jX (P298 (vw h) y) (E298 (vw h) y) k ≤ min 8 (nQ (P298 (vw h) y) k) := ⟨by omega, Int.le_refl _, by omega, b3.2⟩
    have p8 : min 8 (nQ (P298 (vw h) y) k) ≤ 1000 := by omega
    refine d298_71 S h1 h2 h3 h4 h5 h6 h7 h8 ⟨fun e => ?_, fun e => ⟨fun z w8 u g => skip e (fun w => z w.1) w8 u g, fun z => ⟨h32, fun z2 => ⟨hN, fun le => ?_, fun lt => ?_⟩, fun z2 w8 u g => skip e (fun w => z2 w.2) w8 u g⟩⟩⟩
    · have kn : (vw h 72 2).toNat = k := by omega
      rw [kn]
      refine ⟨fun w2 => ⟨p8, pm, fun a => ⟨pm2, fun b => ⟨rfl, ?_⟩, fun b => ⟨rfl, ?_⟩⟩, fun a => ⟨rfl, ?_⟩⟩, fun w2 => ⟨fun w0 => ⟨rfl, ?_⟩, fun w0 => ⟨rfl, ?_⟩⟩⟩
      · unfold m298 mUl
        rw [if_neg (by omega), if_neg (by omega), if_neg (by omega), if_neg (by omega)]
      · unfold m298 mUl
        rw [if_neg (by omega), if_neg (by omega), if_neg (by omega), if_pos b]
      · unfold m298 mUl
        rw [if_neg (by omega), if_neg (by omega), if_pos a]
      · unfold m298
        rw [if_neg w0, if_pos (by omega)]
      · unfold m298
        rw [if_pos w0]
    · have nE : ¬ E298 (vw h) y (k : Nat) := fun w => by unfold E298 at w; omega
      exact ⟨fun ge w4 w5 w8 u g4 g5 g8 => go e ⟨z, z2⟩ w4 w5 x6 x7 w8 u g4 (by rw [g5, bI_f nE]) (Or.inl ⟨ge, rfl, rfl⟩) g8, fun lt8 w4 w5 w6 w7 w8 u g4 g5 g6 g7 g8 => go e ⟨z, z2⟩ w4 w5 w6 w7 w8 u g4 (by rw [g5, bI_f nE]) (Or.inr ⟨lt8, g6, by rw [g7, bI_f nE]⟩) g8⟩
    · have yE : E298 (vw h) y (k : Nat) := lt
      exact ⟨fun ge w4 w5 w8 u g4 g5 g8 => go e ⟨z, z2⟩ w4 w5 x6 x7 w8 u g4 (by rw [g5, bI_t yE]) (Or.inl ⟨ge, rfl, rfl⟩) g8, fun lt8 w4 w5 w6 w7 w8 u g4 g5 g6 g7 g8 => go e ⟨z, z2⟩ w4 w5 w6 w7 w8 u g4 (by rw [g5, bI_t yE]) (Or.inr ⟨lt8, g6, by rw [g7, bI_t yE]⟩) g8⟩
def okRm (y w pw : Int) : Prop := (0 ≤ y ∧ y ≤ 9) ∧ (0 ≤ w ∧ w ≤ 2) ∧ (w = 2 → (100 ≤ pw ∧ pw ≤ 9949) ∧ 1 ≤ iRem pw 100 ∧ iRem pw 100 ≤ 49)
def R298 (V : vS) (y w pw r : Int) (W : vS) : Prop := (¬ okRm y w pw ∧ r = -1 ∧ W = V) ∨ (okRm y w pw ∧ R239 V (V 72 1) W ∧ r = m298 W y w pw (W 72 2).toNat)
theorem c_298 {n : Nat} {X : aX} {h : aH} {x1 x2 x3 : Int32} {a1 a2 a3 : Int} (S : wS h) (z1 : x1.toInt = a1) (z2 : x2.toInt = a2) (z3 : x3.toInt = a3) (hq : q239 (vw h)) (hn : 0 ≤ vw h 72 2 ∧ vw h 72 2 ≤ 150) : Pt n X zM298 0 [some (.ref 72), some (.int x1), some (.int x2), some (.int x3), none, none, none, none, none, none] [] h (qI (fun r h' => R298 (vw h) a1 a2 a3 r (vw h'))) := by
  have bad : ¬ okRm a1 a2 a3 → R298 (vw h) a1 a2 a3 (-1) (vw h) := fun z => Or.inl ⟨z, rfl, rfl⟩
  have run : okRm a1 a2 a3 → ∀ (g : aH), wS g ∧ R239 (vw h) (vw h 72 1) (vw g) → ∀ (w4 w5 w6 w7 w8 : Int32) (u : Option Value), w4.toInt = 0 → w5.toInt = 0 → w6.toInt = 0 → w7.toInt = 0 → w8.toInt = 0 → Pt n X zM298 71 [some (.ref 72), some (.int x1), some (.int x2), some (.int x3), some (.int w4), some (.int w5), some (.int w6), some (.int w7), some (.int w8), u] [] g (qI (fun r h' => R298 (vw h) a1 a2 a3 r (vw h'))) := by
    intro o g ⟨S2, R⟩ w4 w5 w6 w7 w8 u g4 g5 g6 g7 g8
    have A := R.1.1
    have e2 : vw g 72 2 = vw h 72 2 := agR_y A (by decide) (by decide)
    have e32 : vw g 72 32 = vw h 72 32 := agR_y A (by decide) (by decide)
    have e19 : vw g 72 19 = vw h 72 19 := agR_y A (by decide) (by decide)
    refine pt_q (l_298 S2 (by rw [e2]; exact hn) (by rw [e32]; exact hq.2.2.1) (by rw [e19]; exact hq.1) o.2.1 n x1 x2 x3 w4 w5 w6 w7 w8 u 0 z1 z2 z3 g4 g5 (by rw [g6]; rfl) g7 g8 (by rw [e2]; exact hn.1)) ?_
    rintro v h' ⟨x, rfl, rfl, r⟩
    exact ⟨x, rfl, Or.inr ⟨o, R, r⟩⟩
  exact pt_d (d298_0 S z1 z2 z3 ⟨fun e => bad (fun z => e z.1), fun e1 => ⟨fun e => bad (fun z => e z.2.1), fun e2 => ⟨fun e3 => ⟨hq, fun g R w4 w5 w6 w7 w8 u => run ⟨e1, e2, fun z => absurd z e3⟩ g R w4 w5 w6 w7 w8 u⟩, fun e3 => ⟨fun e4 => bad (fun z => e4 (z.2.2 e3).1), fun e4 => ⟨fun e5 => ⟨hq, fun g R w4 w5 w6 w7 w8 u => run ⟨e1, e2, fun _ => ⟨e4, e5⟩⟩ g R w4 w5 w6 w7 w8 u⟩, fun e5 => bad (fun z => e5 (z.2.2 e3).2)⟩⟩⟩⟩⟩)
theorem c_298w {n : Nat} {X : aX} {h : aH} {x1 x2 x3 : Int32} {a1 a2 a3 : Int} (S : wS h) (z1 : x1.toInt = a1) (z2 : x2.toInt = a2) (z3 : x3.toInt = a3) (I : IV h) : Pt n X zM298 0 [some (.ref 72), some (.int x1), some (.int x2), some (.int x3), none, none, none, none, none, none] [] h (qI (fun r h' => (0 ≤ vw h 72 2 ∧ vw h 72 2 ≤ 150 → R298 (vw h) a1 a2 a3 r (vw h')) ∧ IV h')) := by
  by_cases hn : 0 ≤ vw h 72 2 ∧ vw h 72 2 ≤ 150
  · refine pt_q (pt_and (c_298 S z1 z2 z3 I.2.2.2 hn) (wk_298 S z1 z2 z3 I)) ?_
    rintro v h' ⟨⟨x, ev, r⟩, ⟨x', -, -, -, I'⟩⟩
    exact ⟨x, ev, fun _ => r, I'⟩
  · refine pt_q (wk_298 S z1 z2 z3 I) ?_
    rintro v h' ⟨x', ev, -, -, I'⟩
    exact ⟨x', ev, fun z => absurd z hn, I'⟩


-- ===== what is seen of fields =====
theorem sy6 {y k : Int} (h0 : 0 ≤ y) (h1 : y ≤ 9) (h2 : 0 ≤ k) (h3 : k < 6) : w32 (w32 (y * 6) + k) = 6 * y + k := by
  rw [w32_id (z := y * 6) (by omega) (by omega), w32_id (by omega) (by omega)]
  omega
theorem cRow1_c {V V' : vS} {s : Int} (h : V' 69 s = V 69 s) : cRow1 V' s = cRow1 V s := by unfold cRow1; rw [h]
theorem l_41 {X : aX} {V : vS} {q : Nat} {y s i : Int} (hq : 146 ≤ q) (hy : 0 ≤ y ∧ y ≤ 9) (hs : 0 ≤ s ∧ s < 6) (hb : V 70 s ≤ 149) : ∀ (n : Nat) (h : aH) (x1 x2 x4 x5 x7 x8 x9 : Int32) (u10 u11 : Option Value) (k : Nat), wS h → x2.toInt = y → x4.toInt = s → x5.toInt = i → k ≤ 6 → x9.toInt = (k : Int) → x7.toInt = sN V s i k → (x8.toInt = if sE V s i k then 1 else 0) → vw h = rwV V q y s i k → Pt n X zM41 44 [some (.ref 63), some (.int x1), some (.int x2), some (.ref 68), some (.int x4), some (.int x5), some (.ref q), some (.int x7), some (.int x8), some (.int x9), u10, u11] [] h (qI (fun r h' => wS h' ∧ r = sN V s i 6 ∧ vw h' = rwV V q y s i 6)) := by
  intro n
  induction n with
  | zero => exact fun _ _ _ _ _ _ _ _ _ _ _ _ _ _ _ _ _ _ _ _ => pt_z
  | succ n ih =>
    intro h x1 x2 x4 x5 x7 x8 x9 u10 u11 k S h2 h4 h5 hk h9 h7 h8 e
    have b := sN_b V s i k
    have ri := iR x5
    have c69 : vw h 69 s = V 69 s := by rw [e]; exact rwV_c (by omega)
    have c70 : vw h 70 s = V 70 s := by rw [e]; exact rwV_c (by omega)
    have c71 : ∀ j, vw h 71 j = V 71 j := fun j => by rw [e]; exact rwV_c (by omega)
    have c63 : vw h 63 1 = V 63 1 := by rw [e]; exact rwV_c (by omega)
    have cr := cRow1_c c69
    have stop : ∀ (g : aH) (w7 w8 w9 : Int32) (u10 u11 : Option Value), (k : Int) < 6 → sE V s i (k + 1) = true → wS g → vw g = up (vw h) q (6 * y + (k : Int)) 1000 → w7.toInt = w32 (sN V s i k + 0) → w8.toInt = 1 → w9.toInt = w32 ((k : Int) + 1) → Pt n X zM41 44 [some (.ref 63), some (.int x1), some (.int x2), some (.ref 68), some (.int x4), some (.int x5), some (.ref q), some (.int w7), some (.int w8), some (.int w9), u10, u11] [] g (qI (fun r h' => wS h' ∧ r = sN V s i 6 ∧ vw h' = rwV V q y s i 6)) := by
      intro g w7 w8 w9 u10 u11 k6 es S2 eg g7 g8 g9
      replace g9 := w_1 g9 (by omega) (by omega)
      replace g7 := w_1 g7 (by omega) (by omega)
      refine ih g x1 x2 x4 x5 w7 w8 w9 u10 u11 (k + 1) S2 h2 h4 h5 (by omega) (by omega) (by rw [sN_n (sB_n es)]; omega) (by rw [if_pos es]; exact g8) ?_
      rw [eg, e]
      exact rwV_s (sV_n (sB_n es)).symm
    refine d41_44 S rfl h2 h4 h5 h7 h8 h9 ⟨fun e1 => ?_, fun e1 => ⟨fun e2 p g S2 eg w7 w8 w9 u10 u11 g7 g8 g9 => ?_, fun e2 => ⟨fun e3 => ⟨⟨hs, by rw [c70]; exact hb⟩, fun r g p => ⟨fun e4 p5 g2 S2 eg w7 w8 w9 u10 u11 g7 g8 g9 => ?_, fun e4 p5 g2 S2 eg w7 w8 w9 u10 u11 g7 g8 g9 => ?_⟩⟩, fun e3 p g S2 eg w7 w8 w9 u10 u11 g7 g8 g9 => ?_⟩⟩⟩
    · obtain rfl : k = 6 := by omega
      exact ⟨S, rfl, e⟩
    · rw [sy6 hy.1 hy.2 (by omega) (by omega)] at eg
      refine stop g w7 w8 w9 u10 u11 (by omega) ?_ S2 eg g7 g8 g9
      by_cases z : sE V s i k = true
      · unfold sE; rw [z]; rfl
      · rw [if_neg z] at e2; exact absurd rfl e2
    · have hw : w64 (i + (k : Int)) = i + (k : Int) := w64_id (by omega) (by omega)
      rw [hw, c70, cr] at e3
      have hp : hpB V s i k = true := decide_eq_true e3
      have z : sE V s i k = false := by
        cases w : sE V s i k with
        | false => rfl
        | true => rw [w, if_pos rfl] at e2; omega
      have es : sE V s i (k + 1) = false := by unfold sE; rw [z, hp]; rfl
      obtain ⟨Sg, eh, pr⟩ := p
      subst eh
      have iw : w32 (i + (k : Int)) = i + (k : Int) := w32_id (by omega) (by omega)
      rw [iw] at pr
      rcases pr with ⟨no, -⟩ | ⟨-, er⟩
      · exact absurd ⟨cr.trans e3.1, e3.2.1, by rw [c70]; exact e3.2.2⟩ no
      · rw [c71] at er
        have nb : sB V s i k = false := by
          unfold sB
          rw [es, decide_eq_false (by rw [← er, e4, c63]; exact fun w => w rfl)]
          rfl
        rw [sy6 hy.1 hy.2 (by omega) (by omega)] at eg
        replace g9 := w_1 g9 (by omega) (by omega)
        replace g7 := w_1 g7 (by omega) (by omega)
        refine ih g2 x1 x2 x4 x5 w7 w8 w9 u10 u11 (k + 1) S2 h2 h4 h5 (by omega) (by omega) (by rw [sN_n nb]; omega) (by rw [es]; exact g8) ?_
        rw [eg, e]
        exact rwV_s (sV_n nb).symm
    · have hw : w64 (i + (k : Int)) = i + (k : Int) := w64_id (by omega) (by omega)
      rw [hw, c70, cr] at e3
      have hp : hpB V s i k = true := decide_eq_true e3
      have z : sE V s i k = false := by
        cases w : sE V s i k with
        | false => rfl
        | true => rw [w, if_pos rfl] at e2; omega
      have es : sE V s i (k + 1) = false := by unfold sE; rw [z, hp]; rfl
      obtain ⟨Sg, eh, pr⟩ := p
      subst eh
      have iw : w32 (i + (k : Int)) = i + (k : Int) := w32_id (by omega) (by omega)
      rw [iw] at pr
      rcases pr with ⟨no, -⟩ | ⟨-, er⟩
      · exact absurd ⟨cr.trans e3.1, e3.2.1, by rw [c70]; exact e3.2.2⟩ no
      · rw [c71] at er
        have nb : sB V s i k = true := by
          unfold sB
          rw [es, decide_eq_true (by rw [← er, ← c63]; exact e4)]
          rfl
        rw [sy6 hy.1 hy.2 (by omega) (by omega)] at eg
        replace g9 := w_1 g9 (by omega) (by omega)
        replace g7 := w_1 g7 (by omega) (by omega)
        refine ih g2 x1 x2 x4 x5 w7 w8 w9 u10 u11 (k + 1) S2 h2 h4 h5 (by omega) (by omega) (by rw [sN_t nb]; omega) (by rw [es]; exact g8) ?_
        rw [eg, e]
        refine rwV_s ?_
        rw [sV_t nb, er]
    · have hw : w64 (i + (k : Int)) = i + (k : Int) := w64_id (by omega) (by omega)
      rw [hw, c70, cr] at e3
      have hp : hpB V s i k = false := decide_eq_false e3
      rw [sy6 hy.1 hy.2 (by omega) (by omega)] at eg
      refine stop g w7 w8 w9 u10 u11 (by omega) ?_ S2 eg g7 g8 g9
      unfold sE
      rw [hp]
      cases sE V s i k <;> rfl


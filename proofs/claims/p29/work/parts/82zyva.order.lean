-- ===== seasons: the order of the claims =====
def insr (V W : vS) (N f b : Int) : Prop := ∃ i, (0 ≤ i ∧ i ≤ N) ∧ (i = 0 ∨ ¬ bhd V (V 21 (i - 1)) f b) ∧ (∀ p, i ≤ p → p < N → bhd V (V 21 p) f b) ∧ (∀ j, 0 ≤ j → j < i → W 21 j = V 21 j) ∧ W 21 i = N ∧ ∀ j, i < j → j ≤ N → W 21 j = V 21 (j - 1)
theorem bhd_c {V W : vS} {c f b : Int} (h7 : ∀ j, W 17 j = V 17 j) (h8 : ∀ j, W 18 j = V 18 j) : bhd W c f b ↔ bhd V c f b := by
  unfold bhd
  rw [h7, h8]
theorem l_27o {X : aX} {V0 : vS} {N f b : Int} (hN : N < 300) : ∀ (n : Nat) (h : aH) (x1 x2 x3 x4 : Int32) (i : Int), wS h → x1.toInt = f → x2.toInt = b → x4.toInt = i → 0 ≤ i → i ≤ N → vw h 16 1 = N → (∀ (c : Nat) j, c ≠ 21 → vw h c j = V0 c j) → (∀ j, 0 ≤ j → j < i → vw h 21 j = V0 21 j) → (∀ j, i < j → j ≤ N → vw h 21 j = V0 21 (j - 1)) → (∀ p, i ≤ p → p < N → bhd V0 (V0 21 p) f b) → Pt n X zM27 62 [some (.ref 16), some (.int x1), some (.int x2), some (.int x3), some (.int x4)] [] h (qI (fun y h' => wS h' ∧ (y = w32 (N + 1) ∧ ∀ (c : Nat) j, c ≠ 21 → vw h' c j = up V0 16 1 (w32 (N + 1)) c j) ∧ insr V0 (vw h') N f b)) := by
  intro n
  induction n with
  | zero => exact fun _ _ _ _ _ _ _ _ _ _ _ _ _ _ _ _ _ => pt_z
  | succ n ih =>
    intro h x1 x2 x3 x4 i S h1 h2 h4 i0 iN hb F A B C
    have fin : (i = 0 ∨ ¬ bhd V0 (V0 21 (i - 1)) f b) → ∀ g : aH, wS g → vw g = up (up (vw h) 21 i (vw h 16 1)) 16 1 (w32 (vw h 16 1 + 1)) → (fun (y : Int) (h' : aH) => wS h' ∧ (y = w32 (N + 1) ∧ ∀ (c : Nat) j, c ≠ 21 → vw h' c j = up V0 16 1 (w32 (N + 1)) c j) ∧ insr V0 (vw h') N f b) (w32 (vw h 16 1 + 1)) g := by
      intro st g S2 eg
      refine ⟨S2, ⟨by rw [hb], fun c j c1 => ?_⟩, i, ⟨i0, iN⟩, st, C, fun j a b => ?_, ?_, fun j a b => ?_⟩
      · rw [eg, hb]
        unfold up
        by_cases q : c = 16 ∧ j = 1
        · rw [if_pos q, if_pos q]
        · rw [if_neg q, if_neg q, if_neg (fun z => c1 z.1), F c j c1]
      · rw [eg, up_c (by decide), up_j (by omega)]
        exact A j a b
      · rw [eg, up_c (by decide), up_s, hb]
      · rw [eg, up_c (by decide), up_j (by omega)]
        exact B j a b
    have ew : 0 < i → w32 (i - 1) = i - 1 := fun z => w32_id (by omega) (by omega)
    have eb : 0 < i → (bhd V0 (V0 21 (i - 1)) f b ↔ (f < vw h 17 (vw h 21 (w32 (i - 1))) ∨ (vw h 17 (vw h 21 (w32 (i - 1))) = f ∧ b < vw h 18 (vw h 21 (w32 (i - 1)))))) := fun z => by
      rw [ew z, F 17 _ (by decide), F 18 _ (by decide), A (i - 1) (by omega) (by omega)]
      exact Iff.rfl
    refine d27_62 S h1 h2 rfl h4 ⟨fun e p q g S2 eg => fin (Or.inl (by omega)) g S2 eg, fun e p q => ⟨fun e2 p3 q3 g S2 eg => fin (Or.inr (fun z => e2 ((eb e).mp z))) g S2 eg, fun e2 p3 q3 g S2 eg w4 g4 => ?_⟩⟩
    replace g4 := w_1 g4 (by omega) (by omega)
    rw [ew e] at eg
    refine ih g x1 x2 x3 w4 (i - 1) S2 h1 h2 (by omega) (by omega) (by omega) (by rw [eg, up_c (by decide)]; exact hb) (fun c j c1 => by rw [eg, up_c c1]; exact F c j c1) (fun j a b => by rw [eg, up_j (by omega)]; exact A j a (by omega)) (fun j a b => ?_) (fun p a b => ?_)
    · by_cases z : j = i
      · rw [z, eg, up_s]
        exact A (i - 1) (by omega) (by omega)
      · rw [eg, up_j z]
        exact B j (by omega) b
    · by_cases z : p = i - 1
      · rw [z]
        exact (eb e).mpr e2
      · exact C p (by omega) b
def clmV (V : vS) (f b c : Int) : vS := up (up (up (up V 17 (V 16 1) f) 18 (V 16 1) b) 19 (V 16 1) c) 20 (V 16 1) (V 1 0)
def RClo (V : vS) (f b c r : Int) (V' : vS) : Prop := RClm V f b c r V' ∧ (V 16 1 < 300 → insr (clmV V f b c) V' (V 16 1) f b)
theorem c_27o {n : Nat} {X : aX} {h : aH} {x1 x2 x3 : Int32} {a1 a2 a3 : Int} (S : wS h) (z1 : x1.toInt = a1) (z2 : x2.toInt = a2) (z3 : x3.toInt = a3) : Pt n X zM27 0 [some (.ref 16), some (.int x1), some (.int x2), some (.int x3), none] [] h (qI (fun y h' => wS h' ∧ RClo (vw h) a1 a2 a3 y (vw h'))) := by
  refine pt_d (d27_0 S z1 z2 z3 ⟨fun e => ⟨S, Or.inl ⟨e, rfl, rfl⟩, fun z => by omega⟩, fun e p q g S2 eg w4 h4 => ?_⟩)
  refine pt_q (l_27o (V0 := vw g) (N := vw h 16 1) e n g x1 x2 x3 w4 (vw h 16 1) S2 z1 z2 h4 p (Int.le_refl _) (by rw [eg, up_c (by decide), up_c (by decide), up_c (by decide), up_c (by decide)]) (fun _ _ _ => rfl) (fun _ _ _ => rfl) (fun j a b => by omega) (fun p a b => by omega)) ?_
  rintro v h' ⟨x, rfl, r1, ⟨r2, r3⟩, r4⟩
  refine ⟨x, rfl, r1, Or.inr ⟨p, q, r2, fun c j c1 => by rw [r3 c j c1, eg]⟩, fun _ => ?_⟩
  rw [eg] at r4
  exact r4
theorem ord_i {V V' : vS} {f b c : Int} (O : JOrd V) (N0 : 0 ≤ V 16 1) (hd : ∀ d, 0 ≤ d → d < V 16 1 → V 20 d ≤ V 1 0) (e : ∀ (c' : Nat) j, c' ≠ 21 → V' c' j = up (clmV V f b c) 16 1 (V 16 1 + 1) c' j) (I : insr (clmV V f b c) V' (V 16 1) f b) : JOrd V' := by
  obtain ⟨o1, o2, o3, o4⟩ := O
  obtain ⟨i, ⟨i0, iN⟩, st, hi, j1, j2, j3⟩ := I
  have u21 : ∀ j, clmV V f b c 21 j = V 21 j := fun j => by
    unfold clmV
    rw [up_c (by decide), up_c (by decide), up_c (by decide), up_c (by decide)]
  have n' : V' 16 1 = V 16 1 + 1 := by rw [e 16 1 (by decide), up_s]
  have u17 : ∀ d, clmV V f b c 17 d = if d = V 16 1 then f else V 17 d := fun d => by
    unfold clmV
    rw [up_c (by decide), up_c (by decide), up_c (by decide)]
    exact up_p
  have u18 : ∀ d, clmV V f b c 18 d = if d = V 16 1 then b else V 18 d := fun d => by
    unfold clmV
    rw [up_c (by decide), up_c (by decide), up_p, up_c (by decide)]
  have u20 : ∀ d, clmV V f b c 20 d = if d = V 16 1 then V 1 0 else V 20 d := fun d => by
    unfold clmV
    rw [up_p, up_c (by decide), up_c (by decide), up_c (by decide)]
  have old : ∀ d, 0 ≤ d → d < V 16 1 → V' 17 d = V 17 d ∧ V' 18 d = V 18 d ∧ V' 20 d = V 20 d := fun d a z => by
    rw [e 17 d (by decide), e 18 d (by decide), e 20 d (by decide), up_c (by decide), up_c (by decide), up_c (by decide), u17, u18, u20, if_neg (by omega), if_neg (by omega), if_neg (by omega)]
    exact ⟨rfl, rfl, rfl⟩
  have new : V' 17 (V 16 1) = f ∧ V' 18 (V 16 1) = b ∧ V' 20 (V 16 1) = V 1 0 := by
    rw [e 17 _ (by decide), e 18 _ (by decide), e 20 _ (by decide), up_c (by decide), up_c (by decide), up_c (by decide), u17, u18, u20, if_pos rfl, if_pos rfl, if_pos rfl]
    exact ⟨rfl, rfl, rfl⟩
  have lo : ∀ d d', (0 ≤ d ∧ d < V 16 1) → (0 ≤ d' ∧ d' < V 16 1) → lxl V d d' → lxl V' d d' := fun d d' a a' l => by
    unfold lxl at l ⊢
    rw [(old d a.1 a.2).1, (old d a.1 a.2).2.1, (old d' a'.1 a'.2).1, (old d' a'.1 a'.2).2.1]
    exact l
  -- the place of an old claim
  have at' : ∀ p, 0 ≤ p → p < V 16 1 + 1 → p ≠ i → ∃ o, (0 ≤ o ∧ o < V 16 1) ∧ V' 21 p = V 21 o ∧ (p < i ∧ o = p ∨ i < p ∧ o = p - 1) := fun p a z n => by
    rcases Int.lt_or_le p i with w | w
    · exact ⟨p, ⟨a, by omega⟩, by rw [j1 p a w, u21], Or.inl ⟨w, rfl⟩⟩
    · exact ⟨p - 1, ⟨by omega, by omega⟩, by rw [j3 p (by omega) (by omega), u21], Or.inr ⟨by omega, rfl⟩⟩
  have bh : ∀ o, 0 ≤ o → o < V 16 1 → (bhd (clmV V f b c) (clmV V f b c 21 o) f b ↔ bhd V (V 21 o) f b) := fun o a z => by
    have r := o1 o a z
    unfold bhd
    rw [u21, u17, u18, if_neg (by omega), if_neg (by omega)]
  refine ⟨fun p a z => ?_, fun p p' a z z' => ?_, fun d a z => ?_, fun d d' a z z' => ?_⟩
  · rw [n'] at z ⊢
    by_cases w : p = i
    · rw [w, j2]
      omega
    · obtain ⟨o, ho, eo, -⟩ := at' p a z w
      have := o1 o ho.1 ho.2
      rw [eo]
      omega
  · rw [n'] at z'
    by_cases w : p = i
    · obtain ⟨o, ho, eo, k⟩ := at' p' (by omega) z' (by omega)
      have r := o1 o ho.1 ho.2
      have h := (bh o ho.1 ho.2).mp (hi o (by omega) ho.2)
      rw [w, j2, eo]
      unfold lxl
      rw [new.1, new.2.1, (old _ r.1 r.2).1, (old _ r.1 r.2).2.1]
      unfold bhd at h
      omega
    · obtain ⟨o, ho, eo, k⟩ := at' p a (by omega) w
      have r := o1 o ho.1 ho.2
      by_cases w' : p' = i
      · rw [w', j2, eo]
        have k' : o = p ∧ p < i := by omega
        have nb : ¬ bhd V (V 21 (i - 1)) f b := by
          rcases st with q | q
          · omega
          · exact fun h => q ((bh (i - 1) (by omega) (by omega)).mpr h)
        have le : o = i - 1 ∨ lxl V (V 21 o) (V 21 (i - 1)) := by
          by_cases q : o = i - 1
          · exact Or.inl q
          · exact Or.inr (o2 o (i - 1) ho.1 (by omega) (by omega))
        unfold lxl
        rw [new.1, new.2.1, (old _ r.1 r.2).1, (old _ r.1 r.2).2.1]
        unfold bhd at nb
        rcases le with q | q
        · rw [q] at r ⊢
          omega
        · unfold lxl at q
          omega
      · obtain ⟨o', ho', eo', k'⟩ := at' p' (by omega) z' w'
        rw [eo, eo']
        exact lo _ _ r (o1 o' ho'.1 ho'.2) (o2 o o' ho.1 (by omega) ho'.2)
  · rw [n'] at z ⊢
    by_cases w : d = V 16 1
    · exact ⟨i, ⟨i0, by omega⟩, by rw [j2, w]⟩
    · obtain ⟨p, hp, ep⟩ := o3 d a (by omega)
      rcases Int.lt_or_le p i with q | q
      · exact ⟨p, ⟨hp.1, by omega⟩, by rw [j1 p hp.1 q, u21, ep]⟩
      · refine ⟨p + 1, ⟨by omega, by omega⟩, ?_⟩
        rw [j3 (p + 1) (by omega) (by omega), u21, show p + 1 - 1 = p by omega, ep]
  · rw [n'] at z'
    by_cases w : d' = V 16 1
    · rw [w, new.2.2]
      by_cases w2 : d = V 16 1
      · rw [w2, new.2.2]
        exact Int.le_refl _
      · rw [(old d a (by omega)).2.2]
        exact hd d a (by omega)
    · rw [(old d a (by omega)).2.2, (old d' (by omega) (by omega)).2.2]
      exact o4 d d' a z (by omega)


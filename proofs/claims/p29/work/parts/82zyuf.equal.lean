-- ===== seasons: both sides =====
-- what a season holds
theorem szS_d {q : Nat} {V V' : vS} (s : ∀ (c : Nat) j, (c = 5 ∨ c = 8 ∨ 16 ≤ c ∧ c ≤ 31 ∧ c ≠ 19 ∧ c ≠ 22) → V' c j = V c j) (hq' : ∀ j, V' q j = V q j) (h6 : ∀ j, V' (q + 1) j = V (q + 1) j) (i : Int) (y : Nat) : szS V' q i y = szS V q i y := by
  induction y with
  | zero => rfl
  | succ y ih =>
    have e : ∀ V : vS, szS V q i (y + 1) = szS V q i y + szF V q i (y : Nat) := fun _ => rfl
    have f : szF V' q i (y : Nat) = szF V q i (y : Nat) := by
      unfold szF
      rw [hq', hq', hq', s 16 2 (by decide), oRw_c s]
      refine bcn_c 32 (fun x _ => ?_)
      rw [Bt_c (fun j => s 8 j (by decide)) (fun j => s 18 j (by decide)) h6, prB_c (fltB_c (fun j => s 8 j (by decide)) (fun j => s 17 j (by decide)) (fun j => s 18 j (by decide)) h6), prB_c (lsB_c (fun j => s 8 j (by decide)) (fun j => s 17 j (by decide)) (fun j => s 18 j (by decide)) h6)]
    rw [e, e, ih, f]
theorem msg_d {V V' : vS} (s : ∀ (c : Nat) j, (c = 5 ∨ c = 8 ∨ 16 ≤ c ∧ c ≤ 31 ∧ c ≠ 19 ∧ c ≠ 22) → V' c j = V c j) (c yr k : Int) : ∀ i : Nat, msg V' c yr k i = msg V c yr k i := by
  intro i
  induction i with
  | zero => rfl
  | succ i ih => rw [msg_s, msg_s, ih, s 27 _ (by decide), s 28 _ (by decide), s 29 _ (by decide), s 30 _ (by decide), s 31 _ (by decide), s 17 _ (by decide), s 18 _ (by decide)]
noncomputable def lsX (V : vS) (q : Nat) (i : Int) : Int := min (V (q + 2) i) (msg V (V (q + 1) i) (V q 2) (V q 3) (V 16 3).toNat)
theorem tmS_s {V : vS} {q : Nat} {f c : Int} {i : Nat} : tmS V q f ((i + 1 : Nat) : Int) c ↔ tmS V q f (i : Int) c ∨ (fmA V (q + 1) (i : Nat) = f ∧ V (q + 1) (i : Nat) = c) := by
  constructor
  · rintro ⟨j, ⟨a, b⟩, e, g⟩
    by_cases z : j = (i : Int)
    · rw [z] at e g
      exact Or.inr ⟨e, g⟩
    · exact Or.inl ⟨j, ⟨a, by omega⟩, e, g⟩
  · rintro (⟨j, ⟨a, b⟩, e, g⟩ | ⟨e, g⟩)
    · exact ⟨j, ⟨a, by omega⟩, e, g⟩
    · exact ⟨(i : Nat), ⟨by omega, by omega⟩, e, g⟩
theorem suN_t {V : vS} {q : Nat} (hq : 146 ≤ q) {f : Int} (h5 : V (q + 5) f = 0) (h6 : V (q + 6) f = 0) (h7 : V (q + 7) f = -1) : ∀ i : Nat, suN V q i (q + 5) f = w32 (tSm V q (q + 2) f i) ∧ suN V q i (q + 6) f = w32 (sgm (fun j => pI (fmA V (q + 1) j = f) (lsX V q j)) i) ∧ isMx (tmS V q f (i : Int)) (suN V q i (q + 7) f) := by
  intro i
  induction i with
  | zero =>
    refine ⟨h5, h6, ?_⟩
    show isMx (tmS V q f ((0 : Nat) : Int)) (V (q + 7) f)
    rw [h7]
    refine ⟨Int.le_refl _, Or.inl rfl, fun c ⟨j, ⟨a, b⟩, _⟩ => ?_⟩
    omega
  | succ i ih =>
    obtain ⟨e5, e6, m⟩ := ih
    have c : ∀ (c : Nat) j, c ≠ q + 3 → c ≠ q + 5 → c ≠ q + 6 → c ≠ q + 7 → suN V q i c j = V c j := fun c j a b d f => suN_c a b d f i j
    have e : suN V q (i + 1) = suS (suN V q i) q (i : Nat) := rfl
    have g : fmA (suN V q i) (q + 1) (i : Nat) = fmA V (q + 1) (i : Nat) := fmA_c (fun j => c 17 j (by omega) (by omega) (by omega) (by omega)) (fun j => c (q + 1) j (by omega) (by omega) (by omega) (by omega))
    have l : min (suN V q i (q + 2) (i : Nat)) (msg (suN V q i) (suN V q i (q + 1) (i : Nat)) (suN V q i q 2) (suN V q i q 3) (suN V q i 16 3).toNat) = lsX V q (i : Nat) := by
      unfold lsX
      rw [c (q + 2) _ (by omega) (by omega) (by omega) (by omega), c (q + 1) _ (by omega) (by omega) (by omega) (by omega), c q _ (by omega) (by omega) (by omega) (by omega), c q _ (by omega) (by omega) (by omega) (by omega), c 16 _ (by omega) (by omega) (by omega) (by omega), msg_d (fun c' j h => c c' j (by omega) (by omega) (by omega) (by omega))]
    rw [e, suS_5, suS_6, suS_7, g, l, e5, e6, c (q + 2) _ (by omega) (by omega) (by omega) (by omega), c (q + 1) _ (by omega) (by omega) (by omega) (by omega)]
    have s5 : tSm V q (q + 2) f (i + 1) = tSm V q (q + 2) f i + pI (fmA V (q + 1) (i : Nat) = f) (V (q + 2) (i : Nat)) := rfl
    rw [s5, sgm_s]
    by_cases z : f = fmA V (q + 1) (i : Nat)
    · rw [if_pos z, if_pos z, if_pos z, pI_t z.symm, pI_t z.symm, w32_add, w32_add]
      refine ⟨rfl, rfl, ?_⟩
      obtain ⟨m1, m2, m3⟩ := m
      refine ⟨by omega, ?_, fun d hd => ?_⟩
      · by_cases w : V (q + 1) (i : Nat) ≤ suN V q i (q + 7) f
        · rw [Int.max_eq_left w]
          rcases m2 with m2 | m2
          · exact Or.inl m2
          · exact Or.inr (tmS_s.mpr (Or.inl m2))
        · rw [Int.max_eq_right (by omega)]
          exact Or.inr (tmS_s.mpr (Or.inr ⟨z.symm, rfl⟩))
      · rcases tmS_s.mp hd with hd | ⟨-, hd⟩
        · have := m3 d hd
          omega
        · omega
    · rw [if_neg z, if_neg z, if_neg z, pI_f (fun w => z w.symm), pI_f (fun w => z w.symm), Int.add_zero, Int.add_zero]
      refine ⟨rfl, rfl, m.1, ?_, fun d hd => ?_⟩
      · rcases m.2.1 with m2 | m2
        · exact Or.inl m2
        · exact Or.inr (tmS_s.mpr (Or.inl m2))
      · rcases tmS_s.mp hd with hd | ⟨hd, -⟩
        · exact m.2.2 d hd
        · exact absurd hd.symm z
def scK (V : vS) (q : Nat) (y k : Int) : Prop := (V q 2 = y ∧ V q 3 = k) ∧ lis V q y k ∧ (∀ i, 0 ≤ i → i < V q 5 → V (q + 2) i = szS V q i 24) ∧ (∀ y', 0 ≤ y' → y' < 24 → ∀ x, x < 32 → (tb (V (q + 4) y') x = true ↔ fltB V (q + 1) y' (V q 5) x)) ∧ (∀ i, 0 ≤ i → i < V q 5 → V (q + 3) i = min (V (q + 2) i) (msg V (V (q + 1) i) y k (V 16 3).toNat)) ∧ tot V q
theorem scK_c {V W : vS} {q : Nat} {y k : Int} (K : scK V q y k) (s : ∀ (c : Nat) j, (c = 5 ∨ c = 8 ∨ 16 ≤ c ∧ c ≤ 31 ∧ c ≠ 19 ∧ c ≠ 22) → W c j = V c j) (h : ∀ (c : Nat) j, q ≤ c → c ≤ q + 7 → W c j = V c j) : scK W q y k := by
  obtain ⟨a, ⟨b1, b2⟩, c, d, e, t⟩ := K
  have hq : ∀ j, W q j = V q j := fun j => h q j (by omega) (by omega)
  have h6 : ∀ j, W (q + 1) j = V (q + 1) j := fun j => h _ j (by omega) (by omega)
  have h7 : ∀ j, W (q + 2) j = V (q + 2) j := fun j => h _ j (by omega) (by omega)
  have h8 : ∀ j, W (q + 3) j = V (q + 3) j := fun j => h _ j (by omega) (by omega)
  have h9 : ∀ j, W (q + 4) j = V (q + 4) j := fun j => h _ j (by omega) (by omega)
  refine ⟨by rw [hq, hq]; exact a, ⟨?_, fun p pN z => ?_⟩, fun i i0 iN => ?_, fun y' y0 y1 x hx => ?_, fun i i0 iN => ?_, fun f f0 f1 => ?_⟩
  · rw [hq, s 16 1 (by decide), cnN_c s]
    exact b1
  · rw [s 16 1 (by decide)] at pN
    rw [cnN_c s, h6, s 21 _ (by decide)]
    exact b2 p pN ((cnt_c s _ _ _).mp z)
  · rw [hq] at iN
    rw [h7, szS_d s hq h6]
    exact c i i0 iN
  · rw [h9, hq]
    exact (d y' y0 y1 x hx).trans (fltB_c (fun j => s 8 j (by decide)) (fun j => s 17 j (by decide)) (fun j => s 18 j (by decide)) h6).symm
  · rw [hq] at iN
    rw [h8, h7, h6, s 16 3 (by decide), msg_d s]
    exact e i i0 iN
  · have g : ∀ i, fmA W (q + 1) i = fmA V (q + 1) i := fun i => fmA_c (fun j => s 17 j (by decide)) h6
    obtain ⟨t5, t6, t7⟩ := t f f0 f1
    rw [h (q + 5) f (by omega) (by omega), h (q + 6) f (by omega) (by omega), h (q + 7) f (by omega) (by omega), hq]
    unfold tSm tmS at *
    simp only [g, h6, h7, h8]
    exact ⟨t5, t6, t7⟩
theorem suN_l {V : vS} {q : Nat} (hq : 146 ≤ q) : ∀ n : Nat, ∀ i : Int, 0 ≤ i → i < (n : Int) → suN V q n (q + 3) i = min (V (q + 2) i) (msg V (V (q + 1) i) (V q 2) (V q 3) (V 16 3).toNat) := by
  intro n
  induction n with
  | zero => exact fun i a b => by omega
  | succ n ih =>
    intro i a b
    have e : suN V q (n + 1) = suS (suN V q n) q (n : Nat) := rfl
    have c : ∀ (c : Nat) j, c ≠ q + 3 → c ≠ q + 5 → c ≠ q + 6 → c ≠ q + 7 → suN V q n c j = V c j := fun c j a b d f => suN_c a b d f n j
    rw [e]
    unfold suS
    rw [up_c (by omega), up_c (by omega), up_c (by omega)]
    by_cases z : i = (n : Int)
    · rw [z, up_s, c (q + 2) _ (by omega) (by omega) (by omega) (by omega), c (q + 1) _ (by omega) (by omega) (by omega) (by omega), c q _ (by omega) (by omega) (by omega) (by omega), c q _ (by omega) (by omega) (by omega) (by omega), c 16 _ (by omega) (by omega) (by omega) (by omega), msg_d (fun c' j h => c c' j (by omega) (by omega) (by omega) (by omega))]
    · rw [up_j z]
      exact ih i a (by omega)
theorem scK_b {U V : vS} {q : Nat} {y k st : Int} (hq : 146 ≤ q) (R : R97 U q k st V) (q2 : U q 2 = y) : scK V q y k ∧ (∀ (c : Nat) j, c < q ∨ q + 7 < c → V c j = U c j) ∧ V q 4 = st := by
  obtain ⟨W, e, A, ⟨w3, w4, wr⟩, n, li, l, sz, fl⟩ := R
  have c : ∀ (c : Nat) j, c ≠ q + 3 → c ≠ q + 5 → c ≠ q + 6 → c ≠ q + 7 → V c j = W c j := fun c j a b d f => by rw [e]; exact suF_c a b d f j
  have cq : ∀ j, V q j = W q j := fun j => c q j (by omega) (by omega) (by omega) (by omega)
  have c1 : ∀ j, V (q + 1) j = W (q + 1) j := fun j => c _ j (by omega) (by omega) (by omega) (by omega)
  have c2 : ∀ j, V (q + 2) j = W (q + 2) j := fun j => c _ j (by omega) (by omega) (by omega) (by omega)
  have c4 : ∀ j, V (q + 4) j = W (q + 4) j := fun j => c _ j (by omega) (by omega) (by omega) (by omega)
  have W2 : W q 2 = y := (wr 2 (by decide) (by decide) (by decide)).trans q2
  have sU : ∀ (c : Nat) j, (c = 5 ∨ c = 8 ∨ 16 ≤ c ∧ c ≤ 31 ∧ c ≠ 19 ∧ c ≠ 22) → V c j = U c j := fun c' j h => (c c' j (by omega) (by omega) (by omega) (by omega)).trans (A c' j (by omega) (by omega) (by omega) (by omega))
  have sW : ∀ (c : Nat) j, (c = 5 ∨ c = 8 ∨ 16 ≤ c ∧ c ≤ 31 ∧ c ≠ 19 ∧ c ≠ 22) → V c j = W c j := fun c' j h => c c' j (by omega) (by omega) (by omega) (by omega)
  have K0 : lis V q y k := by
    refine ⟨?_, fun p pN z => ?_⟩
    · rw [cq, n, q2, cnN_c sU, sU 16 1 (by decide)]
    · rw [sU 16 1 (by decide)] at pN
      rw [cnN_c sU, c1, sU 21 _ (by decide), ← q2]
      exact li p pN (by rw [q2]; exact (cnt_c sU _ _ _).mp z)
  have lsE : ∀ i, 0 ≤ i → i < W q 5 → V (q + 3) i = lsX W q i := fun i i0 iN => by
    have l5 := l.2.1.1
    have g := suN_l (V := fillV (fillV (fillV W (q + 5) 0 150 0) (q + 6) 0 150 0) (q + 7) 0 150 (-1)) hq (W q 5).toNat i i0 (by omega)
    have f : ∀ (c : Nat) j, c ≠ q + 5 → c ≠ q + 6 → c ≠ q + 7 → fillV (fillV (fillV W (q + 5) 0 150 0) (q + 6) 0 150 0) (q + 7) 0 150 (-1) c j = W c j := fun c' j a b d => by rw [fillV_c d, fillV_c b, fillV_c a]
    rw [f (q + 2) _ (by omega) (by omega) (by omega), f (q + 1) _ (by omega) (by omega) (by omega), f q _ (by omega) (by omega) (by omega), f q _ (by omega) (by omega) (by omega), f 16 _ (by omega) (by omega) (by omega), msg_d (fun c' j h => f c' j (by omega) (by omega) (by omega))] at g
    rw [e]
    exact g
  refine ⟨⟨⟨by rw [cq, W2], by rw [cq, w3]⟩, K0, fun i i0 iN => ?_, fun y' y0 y1 x hx => ?_, fun i i0 iN => ?_, fun f f0 f1 => ?_⟩, fun c' j h => ?_, by rw [cq, w4]⟩
  · rw [cq] at iN
    rw [c2, szS_d sW cq c1]
    exact sz i i0 iN
  · rw [c4, cq]
    exact (fl y' y0 y1 x hx).trans (fltB_c (fun j => sW 8 j (by decide)) (fun j => sW 17 j (by decide)) (fun j => sW 18 j (by decide)) c1).symm
  · rw [cq] at iN
    rw [lsE i i0 iN, c2, c1, sW 16 3 (by decide), msg_d sW]
    unfold lsX
    rw [W2, w3]
  · have l5 := l.2.1.1
    have fl : ∀ (c : Nat) j, c ≠ q + 5 → c ≠ q + 6 → c ≠ q + 7 → fillV (fillV (fillV W (q + 5) 0 150 0) (q + 6) 0 150 0) (q + 7) 0 150 (-1) c j = W c j := fun c' j a b d => by rw [fillV_c d, fillV_c b, fillV_c a]
    have g := suN_t (V := fillV (fillV (fillV W (q + 5) 0 150 0) (q + 6) 0 150 0) (q + 7) 0 150 (-1)) hq (f := f) (by rw [fillV_c (by omega), fillV_c (by omega)]; exact if_pos ⟨rfl, f0, f1⟩) (by rw [fillV_c (by omega)]; exact if_pos ⟨rfl, f0, f1⟩) (if_pos ⟨rfl, f0, f1⟩) (W q 5).toNat
    have gm : ∀ i, fmA V (q + 1) i = fmA W (q + 1) i := fun i => fmA_c (fun j => sW 17 j (by decide)) c1
    have gf : ∀ i, fmA (fillV (fillV (fillV W (q + 5) 0 150 0) (q + 6) 0 150 0) (q + 7) 0 150 (-1)) (q + 1) i = fmA W (q + 1) i := fun i => fmA_c (fun j => fl 17 j (by omega) (by omega) (by omega)) (fun j => fl _ j (by omega) (by omega) (by omega))
    have lf : ∀ i, lsX (fillV (fillV (fillV W (q + 5) 0 150 0) (q + 6) 0 150 0) (q + 7) 0 150 (-1)) q i = lsX W q i := fun i => by
      unfold lsX
      rw [fl (q + 2) _ (by omega) (by omega) (by omega), fl (q + 1) _ (by omega) (by omega) (by omega), fl q _ (by omega) (by omega) (by omega), fl q _ (by omega) (by omega) (by omega), fl 16 _ (by omega) (by omega) (by omega), msg_d (fun c' j h => fl c' j (by omega) (by omega) (by omega))]
    obtain ⟨g5, g6, g7⟩ := g
    have v : ∀ (c : Nat) j, V c j = suN (fillV (fillV (fillV W (q + 5) 0 150 0) (q + 6) 0 150 0) (q + 7) 0 150 (-1)) q (W q 5).toNat c j := fun c j => by rw [e]; rfl
    rw [v (q + 5), v (q + 6), v (q + 7), g5, g6, cq]
    refine ⟨congrArg w32 ?_, congrArg w32 ?_, ?_⟩
    · unfold tSm
      refine sgm_c _ (fun j _ _ => pI_c (by rw [gf, gm]) (fun _ => ?_))
      rw [fl _ j (by omega) (by omega) (by omega), c2]
    · unfold tSm
      refine sgm_c _ (fun j a b => pI_c (by rw [gf, gm]) (fun _ => ?_))
      rw [lf, lsE j a (by omega)]
    · have t : ∀ c, tmS (fillV (fillV (fillV W (q + 5) 0 150 0) (q + 6) 0 150 0) (q + 7) 0 150 (-1)) q f (((W q 5).toNat : Nat) : Int) c ↔ tmS V q f (W q 5) c := fun c => by
        unfold tmS
        rw [show (((W q 5).toNat : Nat) : Int) = W q 5 by omega]
        simp only [gf, gm, c1, fl (q + 1) _ (show q + 1 ≠ q + 5 by omega) (show q + 1 ≠ q + 6 by omega) (show q + 1 ≠ q + 7 by omega)]
      exact ⟨g7.1, g7.2.1.imp id (fun z => (t _).mp z), fun d hd => g7.2.2 d ((t d).mpr hd)⟩
  · rw [c c' j (by omega) (by omega) (by omega) (by omega)]
    exact A c' j (by omega) (by omega) (by omega) (by omega)


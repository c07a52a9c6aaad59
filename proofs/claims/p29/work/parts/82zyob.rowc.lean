-- ===== seasons: a row of squares =====
noncomputable def prB (p : Prop) : Bool := @decide p (Classical.propDecidable p)
theorem prB_t {p : Prop} : prB p = true ↔ p := @decide_eq_true_iff p (Classical.propDecidable p)
theorem prB_c {p q : Prop} (h : p ↔ q) : prB p = prB q := by rw [propext h]
theorem tb_m1' : ∀ x : Fin 32, tb (-1) x.val = true := by decide +kernel
theorem tb_not (a : Int) {x : Nat} (h : x < 32) : tb (bXor a (-1)) x = !(tb a x) := by
  rw [tb_xor, tb_m1' ⟨x, h⟩]
  cases tb a x <;> rfl
theorem bAnd_nn {a b : Int} (h0 : 0 ≤ a) (h1 : a < 2147483648) : 0 ≤ bAnd a b ∧ bAnd a b < 2147483648 := by
  obtain ⟨n, rfl⟩ : ∃ n : Nat, a = (n : Int) := ⟨a.toNat, by omega⟩
  have hn : n < 2147483648 := by omega
  have hl : n &&& (Int32.ofInt b).toBitVec.toNat < 2147483648 := Nat.lt_of_le_of_lt Nat.and_le_left hn
  unfold bAnd
  rw [ofI_n hn]
  have e : nI n &&& Int32.ofInt b = nI (n &&& (Int32.ofInt b).toBitVec.toNat) := by
    refine Int32.toBitVec_inj.mp (BitVec.eq_of_toNat_eq ?_)
    rw [Int32.toBitVec_and, BitVec.toNat_and, pk_tn (show n < 2 ^ 32 by omega), pk_tn (show n &&& (Int32.ofInt b).toBitVec.toNat < 2 ^ 32 by omega)]
  rw [e, nI_toInt (show n &&& (Int32.ofInt b).toBitVec.toNat < 2 ^ 31 from hl)]
  omega
def lsB (V : vS) (r6 : Nat) (y i : Int) (x : Nat) : Prop := ∃ j, (0 ≤ j ∧ j < i) ∧ fmA V r6 j = fmA V r6 i ∧ Bt V r6 y j x = true
noncomputable def szR (V : vS) (r6 : Nat) (y bar i : Int) : Int := bcn (fun x => (Bt V r6 y i x && !(tb bar x)) && !(prB (lsB V r6 y i x))) 32
theorem szR_b (V : vS) (r6 : Nat) (y bar i : Int) : 0 ≤ szR V r6 y bar i ∧ szR V r6 y bar i ≤ 32 := bcn_b _ 32
noncomputable def szV (V : vS) (r6 r7 : Nat) (y bar i : Int) : vS := fun c j => if c = r7 ∧ 0 ≤ j ∧ j < i then V r7 j + szR V r6 y bar j else V c j
theorem szV_c {V : vS} {r6 r7 c : Nat} {y bar i j : Int} (h : c ≠ r7) : szV V r6 r7 y bar i c j = V c j := if_neg (fun z => h z.1)
theorem szV_0 {V : vS} {r6 r7 : Nat} {y bar : Int} : szV V r6 r7 y bar 0 = V := by
  funext c j
  unfold szV
  rw [if_neg (fun z => by omega)]
theorem szV_s {V : vS} {r6 r7 : Nat} {y bar i v : Int} (i0 : 0 ≤ i) (h : v = V r7 i + szR V r6 y bar i) : up (szV V r6 r7 y bar i) r7 i v = szV V r6 r7 y bar (i + 1) := by
  funext c j
  unfold up szV
  by_cases z : c = r7
  · by_cases z2 : j = i
    · subst z2
      rw [if_pos ⟨z, rfl⟩, if_pos ⟨z, i0, by omega⟩, h]
    · rw [if_neg (fun w => z2 w.2)]
      by_cases z3 : 0 ≤ j ∧ j < i
      · rw [if_pos ⟨z, z3⟩, if_pos ⟨z, z3.1, by omega⟩]
      · rw [if_neg (fun w => z3 w.2), if_neg (fun w => by omega)]
  · rw [if_neg (fun w => z w.1), if_neg (fun w => z w.1), if_neg (fun w => z w.1)]
def lInv (V : vS) (r6 : Nat) (y i les : Int) : Prop := ∀ x, x < 32 → (tb les x = true ↔ ∃ j, (0 ≤ j ∧ j < i) ∧ fmA V r6 j = fmA V r6 (i - 1) ∧ Bt V r6 y j x = true)
theorem lInv_e {V : vS} {r6 : Nat} {y i les : Int} (I : lInv V r6 y i les) (e : i ≤ 0 ∨ fmA V r6 i = fmA V r6 (i - 1)) : ∀ x, x < 32 → (tb les x = true ↔ lsB V r6 y i x) := by
  intro x hx
  rw [I x hx]
  refine ⟨fun ⟨j, h, f, g⟩ => ⟨j, h, ?_, g⟩, fun ⟨j, h, f, g⟩ => ⟨j, h, ?_, g⟩⟩
  · rcases e with e | e
    · omega
    · omega
  · rcases e with e | e
    · omega
    · omega
theorem lInv_d {V : vS} {r6 : Nat} {y i N : Int} (hs : ∀ i j, 0 ≤ i → i ≤ j → j < N → fmA V r6 i ≤ fmA V r6 j) (i0 : 0 < i) (iN : i < N) (e : fmA V r6 i ≠ fmA V r6 (i - 1)) : ∀ x, x < 32 → (tb 0 x = true ↔ lsB V r6 y i x) := by
  intro x hx
  rw [tb_0 hx]
  refine ⟨fun z => (by cases z), fun ⟨j, h, f, g⟩ => ?_⟩
  have l1 := hs j (i - 1) h.1 (by omega) (by omega)
  have l2 := hs (i - 1) i (by omega) (by omega) iN
  omega
theorem lInv_s {V : vS} {r6 : Nat} {y i les : Int} (i0 : 0 ≤ i) (I : ∀ x, x < 32 → (tb les x = true ↔ lsB V r6 y i x)) : lInv V r6 y (i + 1) (bOr les (V 8 (24 * fdA V r6 i + y))) := by
  intro x hx
  rw [tb_or', I x hx, show i + 1 - 1 = i by omega]
  refine ⟨fun z => ?_, fun ⟨j, h, f, g⟩ => ?_⟩
  · rcases z with ⟨j, h, f, g⟩ | z
    · exact ⟨j, ⟨h.1, by omega⟩, f, g⟩
    · exact ⟨i, ⟨i0, by omega⟩, rfl, z⟩
  · by_cases w : j = i
    · subst w
      exact Or.inr g
    · exact Or.inl ⟨j, ⟨h.1, by omega⟩, f, g⟩
theorem sz_bits {V : vS} {r6 : Nat} {y bar i les : Int} (I : ∀ x, x < 32 → (tb les x = true ↔ lsB V r6 y i x)) : bcn (tb (bAnd (bAnd (V 8 (24 * fdA V r6 i + y)) (bXor bar (-1))) (bXor les (-1)))) 32 = szR V r6 y bar i := by
  refine bcn_c 32 (fun x hx => ?_)
  rw [tb_and, tb_and, tb_not _ hx, tb_not _ hx]
  have e : tb les x = prB (lsB V r6 y i x) := by
    rw [Bool.eq_iff_iff, I x hx, prB_t]
  rw [e]
  rfl
def pre104 (V : vS) (q : Nat) : Prop := lst V q ∧ V q 7 = ((q + 2 : Nat) : Int) ∧ (∀ j, 0 ≤ V 8 j ∧ V 8 j < 2147483648) ∧ ∀ j, 0 ≤ j → j < 300 → 0 ≤ V (q + 2) j ∧ V (q + 2) j ≤ 100000
theorem l_104 {X : aX} {V : vS} {h0 : aH} {q0 : Nat} {y bar : Int} (hq0 : 146 ≤ q0) (H : pre104 V q0) (hy : 0 ≤ y ∧ y < 24) : ∀ (n : Nat) (h : aH) (x1 x2 x3 x4 : Int32) (u5 : Option Value) (i : Int), wS h → hk h0 h → x1.toInt = y → x2.toInt = bar → x4.toInt = i → 0 ≤ i → i ≤ V q0 5 → lInv V (q0 + 1) y i x3.toInt → vw h = szV V (q0 + 1) (q0 + 2) y bar i → Pt n X zM104 29 [some (.ref q0), some (.int x1), some (.int x2), some (.int x3), some (.int x4), u5] [] h (qN (fun h' => wS h' ∧ hk h0 h' ∧ vw h' = szV V (q0 + 1) (q0 + 2) y bar (V q0 5))) := by
  obtain ⟨⟨⟨k0, k1, k6⟩, hN, hf, hs⟩, k7, h8, hz⟩ := H
  intro n
  induction n with
  | zero => exact fun _ _ _ _ _ _ _ _ _ _ _ _ _ _ _ _ => pt_z
  | succ n ih =>
    intro h x1 x2 x3 x4 u5 i S K h1 h2 h4 i0 iN I e
    have c : ∀ (c : Nat) j, c ≠ (q0 + 2) → vw h c j = V c j := fun c j hc => by rw [e]; exact szV_c hc
    have eq : ∀ j, vw h q0 j = V q0 j := fun j => c q0 j (by omega)
    have e6 : ∀ j, vw h (q0 + 1) j = V (q0 + 1) j := fun j => c (q0 + 1) j (by omega)
    have e8 : ∀ j, vw h 8 j = V 8 j := fun j => c 8 j (by omega)
    have e17 : ∀ j, vw h 17 j = V 17 j := fun j => c 17 j (by omega)
    have e18 : ∀ j, vw h 18 j = V 18 j := fun j => c 18 j (by omega)
    have pc : vw h q0 1 = ((16 : Nat) : Int) ∧ vw h q0 6 = (((q0 + 1) : Nat) : Int) := ⟨(eq 1).trans k1, (eq 6).trans k6⟩
    have er : vw h (q0 + 2) i = V (q0 + 2) i := by
      rw [e]
      exact if_neg (fun z => by omega)
    have row : vw h 8 (24 * vw h 18 (vw h (q0 + 1) i) + y) = V 8 (24 * fdA V (q0 + 1) i + y) := by rw [e6, e18, e8]; rfl
    have fi : i < V q0 5 → (0 ≤ vw h 18 (vw h (q0 + 1) i) ∧ vw h 18 (vw h (q0 + 1) i) < 150) := fun lt => by rw [e6, e18]; exact hf i i0 lt
    -- what is done with one
    have go : ∀ (les : Int) (g : aH) (w3 w4 : Int32) (u5 : Option Value), i < V q0 5 → (∀ x, x < 32 → (tb les x = true ↔ lsB V (q0 + 1) y i x)) → wS g → vw g = up (vw h) (q0 + 2) i (w32 (vw h (q0 + 2) i + bcn (tb (bAnd (bAnd (vw h 8 (24 * vw h 18 (vw h (q0 + 1) i) + y)) (bXor bar (-1))) (bXor les (-1)))) 32)) → hk h g → w3.toInt = bOr les (vw h 8 (24 * vw h 18 (vw h (q0 + 1) i) + y)) → w4.toInt = w32 (i + 1) → Pt n X zM104 29 [some (.ref q0), some (.int x1), some (.int x2), some (.int w3), some (.int w4), u5] [] g (qN (fun h' => wS h' ∧ hk h0 h' ∧ vw h' = szV V (q0 + 1) (q0 + 2) y bar (V q0 5))) := by
      intro les g w3 w4 u5 lt I2 S2 eg K2 g3 g4
      have b := szR_b V (q0 + 1) y bar i
      have bz := hz i i0 (by omega)
      rw [row, sz_bits I2, er, w32_id (by omega) (by omega), e, szV_s i0 rfl] at eg
      rw [row] at g3
      replace g4 := w_1 g4 (by omega) (by omega)
      exact ih g x1 x2 w3 w4 u5 (i + 1) S2 (hk_t K K2) h1 h2 g4 (by omega) (by omega) (by rw [g3]; exact lInv_s i0 I2) eg
    have nn : ∀ les : Int, 0 ≤ bAnd (bAnd (vw h 8 (24 * vw h 18 (vw h (q0 + 1) i) + y)) (bXor bar (-1))) (bXor les (-1)) := fun les => by
      have b0 := h8 (24 * fdA V (q0 + 1) i + y)
      rw [row]
      have b1 := bAnd_nn (b := bXor bar (-1)) b0.1 b0.2
      exact (bAnd_nn b1.1 b1.2).1
    have c5 := eq 5
    refine d104_29 S h1 h2 rfl h4 hq0 ⟨fun e1 => ⟨S, K, ?_⟩, fun e1 => ⟨fun e2 => ⟨(eq 0).trans k0, pc, ⟨fi (by omega), hy⟩, (eq 7).trans k7, fun _ => ⟨nn _, fun _ g S2 eg K2 w3 w4 u5 g3 g4 => go _ g w3 w4 u5 (by omega) (lInv_e I (Or.inl e2)) S2 eg K2 g3 g4⟩⟩, fun e2 => ⟨pc, pc, fun e3 => ⟨(eq 0).trans k0, pc, ⟨fi (by omega), hy⟩, (eq 7).trans k7, fun _ => ⟨nn _, fun _ g S2 eg K2 w3 w4 u5 g3 g4 => go _ g w3 w4 u5 (by omega) (lInv_e I (Or.inr ?_)) S2 eg K2 g3 g4⟩⟩, fun e3 => ⟨(eq 0).trans k0, pc, ⟨fi (by omega), hy⟩, (eq 7).trans k7, fun _ => ⟨nn _, fun _ g S2 eg K2 w3 w4 u5 g3 g4 => go 0 g w3 w4 u5 (by omega) (lInv_d hs e2 (by omega) ?_) S2 eg K2 g3 g4⟩⟩⟩⟩⟩
    · have : i = V q0 5 := by omega
      rw [e, this]
    · rw [w32_id (by omega) (by omega), e6, e6, e17, e17] at e3
      exact e3
    · rw [w32_id (by omega) (by omega), e6, e6, e17, e17] at e3
      exact e3
noncomputable def barA (V : vS) (q : Nat) (y : Int) : Int := bOr (V (q + 4) y) (oRw V y (V q 2) (V q 3) (V 16 2).toNat)
theorem c_104 {n : Nat} {X : aX} {h : aH} {x1 : Int32} {a1 : Int} {q0 : Nat} (S : wS h) (z1 : x1.toInt = a1) (hq0 : 146 ≤ q0) (hp : pre104 (vw h) q0 ∧ (0 ≤ a1 ∧ a1 < 24) ∧ vw h q0 9 = (((q0 + 4) : Nat) : Int) ∧ 0 ≤ vw h 16 2 ∧ vw h 16 2 ≤ 40) : Pt n X zM104 0 [some (.ref q0), some (.int x1), none, none, none, none] [] h (qN (fun h' => wS h' ∧ hk h h' ∧ vw h' = szV (vw h) (q0 + 1) (q0 + 2) a1 (barA (vw h) q0 a1) (vw h q0 5))) := by
  obtain ⟨H, hy, k9, h2⟩ := hp
  refine pt_d (d104_0 S z1 hq0 ⟨k9, fun _ => ⟨H.1.1.2.1, h2, fun w2 w3 w4 u5 g2 g3 g4 => ?_⟩⟩)
  exact l_104 hq0 H hy n h x1 w2 w3 w4 u5 0 S (hk_r h) z1 g2 g4 (Int.le_refl _) H.1.2.1.1 (fun x hx => by rw [g3, tb_0 hx]; exact ⟨fun z => (by cases z), fun ⟨j, z, _⟩ => by omega⟩) szV_0.symm


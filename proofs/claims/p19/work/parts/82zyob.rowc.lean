-- ===== 82zyob.rowc: 4 texts =====
section
-- ===== seasons: a row of squares =====
noncomputable def prB (p : Prop) : Bool := @decide p (Classical.propDecidable p)
theorem prB_t {p : Prop} : prB p = true ↔ p := @decide_eq_true_iff p (Classical.propDecidable p)
theorem prB_c {p q : Prop} (h : p ↔ q) : prB p = prB q := by rw [propext h]
theorem tb_m1' : ∀ x : Fin 32, tb (-1) x.val = true := by decide +kernel
theorem tb_not (a : Int) {x : Nat} (h : x < 32) : tb (bXor a (-1)) x = !(tb a x) := by
  rw [tb_xor, tb_m1' ⟨x, h⟩]
  cases tb a x <;> rfl
theorem bAnd_nn {a b : Int} (h0 : 0 ≤ a) (h1 : a < 2147483648) : 0 ≤ bAnd a b ∧ bAnd a b < 2147483648 := by
  obtain ⟨n, rfl⟩ : ∃ n : Nat, a = (n : Int) := ⟨a.toNat, by omega⟩
  have hn : n < 2147483648 := by omega
  have hl : n &&& (Int32.ofInt b).toBitVec.toNat < 2147483648 := Nat.lt_of_le_of_lt Nat.and_le_left hn
  unfold bAnd
  rw [ofI_n hn]
  have e : nI n &&& Int32.ofInt b = nI (n &&& (Int32.ofInt b).toBitVec.toNat) := by
    refine Int32.toBitVec_inj.mp (BitVec.eq_of_toNat_eq ?_)
    rw [Int32.toBitVec_and, BitVec.toNat_and, pk_tn (show n < 2 ^ 32 by omega), pk_tn (show n &&& (Int32.ofInt b).toBitVec.toNat < 2 ^ 32 by omega)]
  rw [e, nI_toInt (show n &&& (Int32.ofInt b).toBitVec.toNat < 2 ^ 31 from hl)]
  omega
def lsB (V : vS) (r6 : Nat) (y i : Int) (x : Nat) : Prop := ∃ j, (0 ≤ j ∧ j < i) ∧ fmA V r6 j = fmA V r6 i ∧ Bt V r6 y j x = true
noncomputable def szR (V : vS) (r6 : Nat) (y bar i : Int) : Int := bcn (fun x => (Bt V r6 y i x && !(tb bar x)) && !(prB (lsB V r6 y i x))) 32
theorem szR_b (V : vS) (r6 : Nat) (y bar i : Int) : 0 ≤ szR V r6 y bar i ∧ szR V r6 y bar i ≤ 32 := bcn_b _ 32
noncomputable def szV (V : vS) (r6 r7 : Nat) (y bar i : Int) : vS := fun c j => if c = r7 ∧ 0 ≤ j ∧ j < i then V r7 j + szR V r6 y bar j else V c j
theorem szV_c {V : vS} {r6 r7 c : Nat} {y bar i j : Int} (h : c ≠ r7) : szV V r6 r7 y bar i c j = V c j := if_neg (fun z => h z.1)
theorem szV_0 {V : vS} {r6 r7 : Nat} {y bar : Int} : szV V r6 r7 y bar 0 = V := by
  funext c j
  unfold szV
  rw [if_neg (fun z => by omega)]
theorem szV_s {V : vS} {r6 r7 : Nat} {y bar i v : Int} (i0 : 0 ≤ i) (h : v = V r7 i + szR V r6 y bar i) : up (szV V r6 r7 y bar i) r7 i v = szV V r6 r7 y bar (i + 1) := by
  funext c j
  unfold up szV
  by_cases z : c = r7
  · by_cases z2 : j = i
    · subst z2
      rw [if_pos ⟨z, rfl⟩, if_pos ⟨z, i0, by omega⟩, h]
    · rw [if_neg (fun w => z2 w.2)]
      by_cases z3 : 0 ≤ j ∧ j < i
      · rw [if_pos ⟨z, z3⟩, if_pos ⟨z, z3.1, by omega⟩]
      · rw [if_neg (fun w => z3 w.2), if_neg (fun w => by omega)]
  · rw [if_neg (fun w => z w.1), if_neg (fun w => z w.1), if_neg (fun w => z w.1)]
def lInv (V : vS) (r6 : Nat) (y i les : Int) : Prop := ∀ x, x < 32 → (tb les x = true ↔ ∃ j, (0 ≤ j ∧ j < i) ∧ fmA V r6 j = fmA V r6 (i - 1) ∧ Bt V r6 y j x = true)
theorem lInv_e {V : vS} {r6 : Nat} {y i les : Int} (I : lInv V r6 y i les) (e : i ≤ 0 ∨ fmA V r6 i = fmA V r6 (i - 1)) : ∀ x, x < 32 → (tb les x = true ↔ lsB V r6 y i x) := by
  intro x hx
  rw [I x hx]
  refine ⟨fun ⟨j, h, f, g⟩ => ⟨j, h, ?_, g⟩, fun ⟨j, h, f, g⟩ => ⟨j, h, ?_, g⟩⟩
  · rcases e with e | e
    · omega
    · omega
  · rcases e with e | e
    · omega
    · omega
theorem lInv_d {V : vS} {r6 : Nat} {y i N : Int} (hs : ∀ i j, 0 ≤ i → i ≤ j → j < N → fmA V r6 i ≤ fmA V r6 j) (i0 : 0 < i) (iN : i < N) (e : fmA V r6 i ≠ fmA V r6 (i - 1)) : ∀ x, x < 32 → (tb 0 x = true ↔ lsB V r6 y i x) := by
  intro x hx
  rw [tb_0 hx]
  refine ⟨fun z => (by cases z), fun ⟨j, h, f, g⟩ => ?_⟩
  have l1 := hs j (i - 1) h.1 (by omega) (by omega)
  have l2 := hs (i - 1) i (by omega) (by omega) iN
  omega
theorem lInv_s {V : vS} {r6 : Nat} {y i les : Int} (i0 : 0 ≤ i) (I : ∀ x, x < 32 → (tb les x = true ↔ lsB V r6 y i x)) : lInv V r6 y (i + 1) (bOr les (V 8 (24 * fdA V r6 i + y))) := by
  intro x hx
  rw [tb_or', I x hx, show i + 1 - 1 = i by omega]
  refine ⟨fun z => ?_, fun ⟨j, h, f, g⟩ => ?_⟩
  · rcases z with ⟨j, h, f, g⟩ | z
    · exact ⟨j, ⟨h.1, by omega⟩, f, g⟩
    · exact ⟨i, ⟨i0, by omega⟩, rfl, z⟩
  · by_cases w : j = i
    · subst w
      exact Or.inr g
    · exact Or.inl ⟨j, ⟨h.1, by omega⟩, f, g⟩
theorem sz_bits {V : vS} {r6 : Nat} {y bar i les : Int} (I : ∀ x, x < 32 → (tb les x = true ↔ lsB V r6 y i x)) : bcn (tb (bAnd (bAnd (V 8 (24 * fdA V r6 i + y)) (bXor bar (-1))) (bXor les (-1)))) 32 = szR V r6 y bar i := by
  refine bcn_c 32 (fun x hx => ?_)
  rw [tb_and, tb_and, tb_not _ hx, tb_not _ hx]
  have e : tb les x = prB (lsB V r6 y i x) := by
    rw [Bool.eq_iff_iff, I x hx, prB_t]
  rw [e]
  rfl
def pre104 (V : vS) (q : Nat) : Prop := lst V q ∧ V q 7 = ((q + 2 : Nat) : Int) ∧ (∀ j, 0 ≤ V 8 j ∧ V 8 j < 2147483648) ∧ ∀ j, 0 ≤ j → j < 300 → 0 ≤ V (q + 2) j ∧ V (q + 2) j ≤ 100000
theorem l_104 {X : aX} {V : vS} {h0 : aH} {q0 : Nat} {y bar : Int} (hq0 : 146 ≤ q0) (H : pre104 V q0) (hy : 0 ≤ y ∧ y < 24) : ∀ (n : Nat) (h : aH) (x1 x2 x3 x4 : Int32) (u5 : Option Value) (i : Int), wS h → hk h0 h → x1.toInt = y → x2.toInt = bar → x4.toInt = i → 0 ≤ i → i ≤ V q0 5 → lInv V (q0 + 1) y i x3.toInt → vw h = szV V (q0 + 1) (q0 + 2) y bar i → Pt n X zM104 29 [some (.ref q0), some (.int x1), some (.int x2), some (.int x3), some (.int x4), u5] [] h (qN (fun h' => wS h' ∧ hk h0 h' ∧ vw h' = szV V (q0 + 1) (q0 + 2) y bar (V q0 5))) := by
  obtain ⟨⟨⟨k0, k1, k6⟩, hN, hf, hs⟩, k7, h8, hz⟩ := H
  intro n
  induction n with
  | zero => exact fun _ _ _ _ _ _ _ _ _ _ _ _ _ _ _ _ => pt_z
  | succ n ih =>
    intro h x1 x2 x3 x4 u5 i S K h1 h2 h4 i0 iN I e
    have c : ∀ (c : Nat) j, c ≠ (q0 + 2) → vw h c j = V c j := fun c j hc => by rw [e]; exact szV_c hc
    have eq : ∀ j, vw h q0 j = V q0 j := fun j => c q0 j (by omega)
    have e6 : ∀ j, vw h (q0 + 1) j = V (q0 + 1) j := fun j => c (q0 + 1) j (by omega)
    have e8 : ∀ j, vw h 8 j = V 8 j := fun j => c 8 j (by omega)
    have e17 : ∀ j, vw h 17 j = V 17 j := fun j => c 17 j (by omega)
    have e18 : ∀ j, vw h 18 j = V 18 j := fun j => c 18 j (by omega)
    have pc : vw h q0 1 = ((16 : Nat) : Int) ∧ vw h q0 6 = (((q0 + 1) : Nat) : Int) := ⟨(eq 1).trans k1, (eq 6).trans k6⟩
    have er : vw h (q0 + 2) i = V (q0 + 2) i := by
      rw [e]
      exact if_neg (fun z => by omega)
    have row : vw h 8 (24 * vw h 18 (vw h (q0 + 1) i) + y) = V 8 (24 * fdA V (q0 + 1) i + y) := by rw [e6, e18, e8]; rfl
    have fi : i < V q0 5 → (0 ≤ vw h 18 (vw h (q0 + 1) i) ∧ vw h 18 (vw h (q0 + 1) i) < 150) := fun lt => by rw [e6, e18]; exact hf i i0 lt
    -- what is done with one
    have go : ∀ (les : Int) (g : aH) (w3 w4 : Int32) (u5 : Option Value), i < V q0 5 → (∀ x, x < 32 → (tb les x = true ↔ lsB V (q0 + 1) y i x)) → wS g → vw g = up (vw h) (q0 + 2) i (w32 (vw h (q0 + 2) i + bcn (tb (bAnd (bAnd (vw h 8 (24 * vw h 18 (vw h (q0 + 1) i) + y)) (bXor bar (-1))) (bXor les (-1)))) 32)) → hk h g → w3.toInt = bOr les (vw h 8 (24 * vw h 18 (vw h (q0 + 1) i) + y)) → w4.toInt = w32 (i + 1) → Pt n X zM104 29 [some (.ref q0), some (.int x1), some (.int x2), some (.int w3), some (.int w4), u5] [] g (qN (fun h' => wS h' ∧ hk h0 h' ∧ vw h' = szV V (q0 + 1) (q0 + 2) y bar (V q0 5))) := by
      intro les g w3 w4 u5 lt I2 S2 eg K2 g3 g4
      have b := szR_b V (q0 + 1) y bar i
      have bz := hz i i0 (by omega)
      rw [row, sz_bits I2, er, w32_id (by omega) (by omega), e, szV_s i0 rfl] at eg
      rw [row] at g3
      replace g4 := w_1 g4 (by omega) (by omega)
      exact ih g x1 x2 w3 w4 u5 (i + 1) S2 (hk_t K K2) h1 h2 g4 (by omega) (by omega) (by rw [g3]; exact lInv_s i0 I2) eg
    have nn : ∀ les : Int, 0 ≤ bAnd (bAnd (vw h 8 (24 * vw h 18 (vw h (q0 + 1) i) + y)) (bXor bar (-1))) (bXor les (-1)) := fun les => by
      have b0 := h8 (24 * fdA V (q0 + 1) i + y)
      rw [row]
      have b1 := bAnd_nn (b := bXor bar (-1)) b0.1 b0.2
      exact (bAnd_nn b1.1 b1.2).1
    have c5 := eq 5
    refine d104_29 S h1 h2 rfl h4 hq0 ⟨fun e1 => ⟨S, K, ?_⟩, fun e1 => ⟨fun e2 => ⟨(eq 0).trans k0, pc, ⟨fi (by omega), hy⟩, (eq 7).trans k7, fun _ => ⟨nn _, fun _ g S2 eg K2 w3 w4 u5 g3 g4 => go _ g w3 w4 u5 (by omega) (lInv_e I (Or.inl e2)) S2 eg K2 g3 g4⟩⟩, fun e2 => ⟨pc, pc, fun e3 => ⟨(eq 0).trans k0, pc, ⟨fi (by omega), hy⟩, (eq 7).trans k7, fun _ => ⟨nn _, fun _ g S2 eg K2 w3 w4 u5 g3 g4 => go _ g w3 w4 u5 (by omega) (lInv_e I (Or.inr ?_)) S2 eg K2 g3 g4⟩⟩, fun e3 => ⟨(eq 0).trans k0, pc, ⟨fi (by omega), hy⟩, (eq 7).trans k7, fun _ => ⟨nn _, fun _ g S2 eg K2 w3 w4 u5 g3 g4 => go 0 g w3 w4 u5 (by omega) (lInv_d hs e2 (by omega) ?_) S2 eg K2 g3 g4⟩⟩⟩⟩⟩
    · have : i = V q0 5 := by omega
      rw [e, this]
    · rw [w32_id (by omega) (by omega), e6, e6, e17, e17] at e3
      exact e3
    · rw [w32_id (by omega) (by omega), e6, e6, e17, e17] at e3
      exact e3
noncomputable def barA (V : vS) (q : Nat) (y : Int) : Int := bOr (V (q + 4) y) (oRw V y (V q 2) (V q 3) (V 16 2).toNat)
theorem c_104 {n : Nat} {X : aX} {h : aH} {x1 : Int32} {a1 : Int} {q0 : Nat} (S : wS h) (z1 : x1.toInt = a1) (hq0 : 146 ≤ q0) (hp : pre104 (vw h) q0 ∧ (0 ≤ a1 ∧ a1 < 24) ∧ vw h q0 9 = (((q0 + 4) : Nat) : Int) ∧ 0 ≤ vw h 16 2 ∧ vw h 16 2 ≤ 40) : Pt n X zM104 0 [some (.ref q0), some (.int x1), none, none, none, none] [] h (qN (fun h' => wS h' ∧ hk h h' ∧ vw h' = szV (vw h) (q0 + 1) (q0 + 2) a1 (barA (vw h) q0 a1) (vw h q0 5))) := by
  obtain ⟨H, hy, k9, h2⟩ := hp
  refine pt_d (d104_0 S z1 hq0 ⟨k9, fun _ => ⟨H.1.1.2.1, h2, fun w2 w3 w4 u5 g2 g3 g4 => ?_⟩⟩)
  exact l_104 hq0 H hy n h x1 w2 w3 w4 u5 0 S (hk_r h) z1 g2 g4 (Int.le_refl _) H.1.2.1.1 (fun x hx => by rw [g3, tb_0 hx]; exact ⟨fun z => (by cases z), fun ⟨j, z, _⟩ => by omega⟩) szV_0.symm
end
section
-- ===== seasons: summed up and built =====
theorem gx105_0 : aF 0 zM105.2.2.2.2.2.2.2 = some (0, (.aload_n 0), 1, 0, 0) := by decide +kernel
theorem gx105_1 : aF 1 zM105.2.2.2.2.2.2.2 = some (1, (.getfield 31), 3, 8, 10) := by decide +kernel
theorem gx105_4 : aF 4 zM105.2.2.2.2.2.2.2 = some (4, (.iconst 0), 1, 0, 0) := by decide +kernel
theorem gx105_5 : aF 5 zM105.2.2.2.2.2.2.2 = some (5, (.invokestatic 64), 3, 332, 0) := by decide +kernel
theorem gx105_8 : aF 8 zM105.2.2.2.2.2.2.2 = some (8, (.aload_n 0), 1, 0, 0) := by decide +kernel
theorem gx105_9 : aF 9 zM105.2.2.2.2.2.2.2 = some (9, (.getfield 34), 3, 8, 11) := by decide +kernel
theorem gx105_12 : aF 12 zM105.2.2.2.2.2.2.2 = some (12, (.iconst 0), 1, 0, 0) := by decide +kernel
theorem gx105_13 : aF 13 zM105.2.2.2.2.2.2.2 = some (13, (.invokestatic 64), 3, 332, 0) := by decide +kernel
theorem gx105_16 : aF 16 zM105.2.2.2.2.2.2.2 = some (16, (.aload_n 0), 1, 0, 0) := by decide +kernel
theorem gx105_17 : aF 17 zM105.2.2.2.2.2.2.2 = some (17, (.getfield 37), 3, 8, 12) := by decide +kernel
theorem gx105_20 : aF 20 zM105.2.2.2.2.2.2.2 = some (20, (.iconst (-1)), 1, 0, 0) := by decide +kernel
theorem gx105_21 : aF 21 zM105.2.2.2.2.2.2.2 = some (21, (.invokestatic 64), 3, 332, 0) := by decide +kernel
theorem gx105_24 : aF 24 zM105.2.2.2.2.2.2.2 = some (24, (.iconst 0), 1, 0, 0) := by decide +kernel
theorem gx105_25 : aF 25 zM105.2.2.2.2.2.2.2 = some (25, (.istore_n 1), 1, 0, 0) := by decide +kernel
theorem gx105_26 : aF 26 zM105.2.2.2.2.2.2.2 = some (26, (.iload_n 1), 1, 0, 0) := by decide +kernel
theorem gx105_27 : aF 27 zM105.2.2.2.2.2.2.2 = some (27, (.aload_n 0), 1, 0, 0) := by decide +kernel
theorem gx105_28 : aF 28 zM105.2.2.2.2.2.2.2 = some (28, (.getfield 51), 3, 8, 5) := by decide +kernel
theorem gx105_31 : aF 31 zM105.2.2.2.2.2.2.2 = some (31, (.if_icmp .ge 102), 3, 133, 0) := by decide +kernel
theorem gx105_133 : aF 133 zM105.2.2.2.2.2.2.2 = some (133, .return_, 1, 0, 0) := by decide +kernel
theorem gx105_34 : aF 34 zM105.2.2.2.2.2.2.2 = some (34, (.aload_n 0), 1, 0, 0) := by decide +kernel
theorem gx105_35 : aF 35 zM105.2.2.2.2.2.2.2 = some (35, (.iload_n 1), 1, 0, 0) := by decide +kernel
theorem gx105_36 : aF 36 zM105.2.2.2.2.2.2.2 = some (36, (.invokevirtual 81), 3, 100, 0) := by decide +kernel
theorem gx105_39 : aF 39 zM105.2.2.2.2.2.2.2 = some (39, (.istore_n 2), 1, 0, 0) := by decide +kernel
theorem gx105_40 : aF 40 zM105.2.2.2.2.2.2.2 = some (40, (.aload_n 0), 1, 0, 0) := by decide +kernel
theorem gx105_41 : aF 41 zM105.2.2.2.2.2.2.2 = some (41, (.getfield 25), 3, 8, 8) := by decide +kernel
theorem gx105_44 : aF 44 zM105.2.2.2.2.2.2.2 = some (44, (.iload_n 1), 1, 0, 0) := by decide +kernel
theorem gx105_45 : aF 45 zM105.2.2.2.2.2.2.2 = some (45, (.aload_n 0), 1, 0, 0) := by decide +kernel
theorem gx105_46 : aF 46 zM105.2.2.2.2.2.2.2 = some (46, (.getfield 22), 3, 8, 7) := by decide +kernel
theorem gx105_49 : aF 49 zM105.2.2.2.2.2.2.2 = some (49, (.iload_n 1), 1, 0, 0) := by decide +kernel
theorem gx105_50 : aF 50 zM105.2.2.2.2.2.2.2 = some (50, .iaload, 1, 0, 0) := by decide +kernel
theorem gx105_51 : aF 51 zM105.2.2.2.2.2.2.2 = some (51, (.aload_n 0), 1, 0, 0) := by decide +kernel
theorem gx105_52 : aF 52 zM105.2.2.2.2.2.2.2 = some (52, (.getfield 44), 3, 8, 1) := by decide +kernel
theorem gx105_55 : aF 55 zM105.2.2.2.2.2.2.2 = some (55, (.aload_n 0), 1, 0, 0) := by decide +kernel
theorem gx105_56 : aF 56 zM105.2.2.2.2.2.2.2 = some (56, (.getfield 18), 3, 8, 6) := by decide +kernel
theorem gx105_59 : aF 59 zM105.2.2.2.2.2.2.2 = some (59, (.iload_n 1), 1, 0, 0) := by decide +kernel
theorem gx105_60 : aF 60 zM105.2.2.2.2.2.2.2 = some (60, .iaload, 1, 0, 0) := by decide +kernel
theorem gx105_61 : aF 61 zM105.2.2.2.2.2.2.2 = some (61, (.aload_n 0), 1, 0, 0) := by decide +kernel
theorem gx105_62 : aF 62 zM105.2.2.2.2.2.2.2 = some (62, (.getfield 48), 3, 8, 2) := by decide +kernel
theorem gx105_65 : aF 65 zM105.2.2.2.2.2.2.2 = some (65, (.aload_n 0), 1, 0, 0) := by decide +kernel
theorem gx105_66 : aF 66 zM105.2.2.2.2.2.2.2 = some (66, (.getfield 9), 3, 8, 3) := by decide +kernel
theorem gx105_69 : aF 69 zM105.2.2.2.2.2.2.2 = some (69, (.invokevirtual 113), 3, 35, 0) := by decide +kernel
theorem gx105_72 : aF 72 zM105.2.2.2.2.2.2.2 = some (72, (.invokestatic 93), 3, 1011, 0) := by decide +kernel
theorem gx105_75 : aF 75 zM105.2.2.2.2.2.2.2 = some (75, .iastore, 1, 0, 0) := by decide +kernel
theorem gx105_76 : aF 76 zM105.2.2.2.2.2.2.2 = some (76, (.aload_n 0), 1, 0, 0) := by decide +kernel
theorem gx105_77 : aF 77 zM105.2.2.2.2.2.2.2 = some (77, (.getfield 31), 3, 8, 10) := by decide +kernel
theorem gx105_80 : aF 80 zM105.2.2.2.2.2.2.2 = some (80, (.iload_n 2), 1, 0, 0) := by decide +kernel
theorem gx105_81 : aF 81 zM105.2.2.2.2.2.2.2 = some (81, .dup2, 1, 0, 0) := by decide +kernel
theorem gx105_82 : aF 82 zM105.2.2.2.2.2.2.2 = some (82, .iaload, 1, 0, 0) := by decide +kernel
theorem gx105_83 : aF 83 zM105.2.2.2.2.2.2.2 = some (83, (.aload_n 0), 1, 0, 0) := by decide +kernel
theorem gx105_84 : aF 84 zM105.2.2.2.2.2.2.2 = some (84, (.getfield 22), 3, 8, 7) := by decide +kernel
theorem gx105_87 : aF 87 zM105.2.2.2.2.2.2.2 = some (87, (.iload_n 1), 1, 0, 0) := by decide +kernel
theorem gx105_88 : aF 88 zM105.2.2.2.2.2.2.2 = some (88, .iaload, 1, 0, 0) := by decide +kernel
theorem gx105_89 : aF 89 zM105.2.2.2.2.2.2.2 = some (89, .iadd, 1, 0, 0) := by decide +kernel
theorem gx105_90 : aF 90 zM105.2.2.2.2.2.2.2 = some (90, .iastore, 1, 0, 0) := by decide +kernel
theorem gx105_91 : aF 91 zM105.2.2.2.2.2.2.2 = some (91, (.aload_n 0), 1, 0, 0) := by decide +kernel
theorem gx105_92 : aF 92 zM105.2.2.2.2.2.2.2 = some (92, (.getfield 34), 3, 8, 11) := by decide +kernel
theorem gx105_95 : aF 95 zM105.2.2.2.2.2.2.2 = some (95, (.iload_n 2), 1, 0, 0) := by decide +kernel
theorem gx105_96 : aF 96 zM105.2.2.2.2.2.2.2 = some (96, .dup2, 1, 0, 0) := by decide +kernel
theorem gx105_97 : aF 97 zM105.2.2.2.2.2.2.2 = some (97, .iaload, 1, 0, 0) := by decide +kernel
theorem gx105_98 : aF 98 zM105.2.2.2.2.2.2.2 = some (98, (.aload_n 0), 1, 0, 0) := by decide +kernel
theorem gx105_99 : aF 99 zM105.2.2.2.2.2.2.2 = some (99, (.getfield 25), 3, 8, 8) := by decide +kernel
theorem gx105_102 : aF 102 zM105.2.2.2.2.2.2.2 = some (102, (.iload_n 1), 1, 0, 0) := by decide +kernel
theorem gx105_103 : aF 103 zM105.2.2.2.2.2.2.2 = some (103, .iaload, 1, 0, 0) := by decide +kernel
theorem gx105_104 : aF 104 zM105.2.2.2.2.2.2.2 = some (104, .iadd, 1, 0, 0) := by decide +kernel
theorem gx105_105 : aF 105 zM105.2.2.2.2.2.2.2 = some (105, .iastore, 1, 0, 0) := by decide +kernel
theorem gx105_106 : aF 106 zM105.2.2.2.2.2.2.2 = some (106, (.aload_n 0), 1, 0, 0) := by decide +kernel
theorem gx105_107 : aF 107 zM105.2.2.2.2.2.2.2 = some (107, (.getfield 37), 3, 8, 12) := by decide +kernel
theorem gx105_110 : aF 110 zM105.2.2.2.2.2.2.2 = some (110, (.iload_n 2), 1, 0, 0) := by decide +kernel
theorem gx105_111 : aF 111 zM105.2.2.2.2.2.2.2 = some (111, (.aload_n 0), 1, 0, 0) := by decide +kernel
theorem gx105_112 : aF 112 zM105.2.2.2.2.2.2.2 = some (112, (.getfield 37), 3, 8, 12) := by decide +kernel
theorem gx105_115 : aF 115 zM105.2.2.2.2.2.2.2 = some (115, (.iload_n 2), 1, 0, 0) := by decide +kernel
theorem gx105_116 : aF 116 zM105.2.2.2.2.2.2.2 = some (116, .iaload, 1, 0, 0) := by decide +kernel
theorem gx105_117 : aF 117 zM105.2.2.2.2.2.2.2 = some (117, (.aload_n 0), 1, 0, 0) := by decide +kernel
theorem gx105_118 : aF 118 zM105.2.2.2.2.2.2.2 = some (118, (.getfield 18), 3, 8, 6) := by decide +kernel
theorem gx105_121 : aF 121 zM105.2.2.2.2.2.2.2 = some (121, (.iload_n 1), 1, 0, 0) := by decide +kernel
theorem gx105_122 : aF 122 zM105.2.2.2.2.2.2.2 = some (122, .iaload, 1, 0, 0) := by decide +kernel
theorem gx105_123 : aF 123 zM105.2.2.2.2.2.2.2 = some (123, (.invokestatic 116), 3, 1010, 0) := by decide +kernel
theorem gx105_126 : aF 126 zM105.2.2.2.2.2.2.2 = some (126, .iastore, 1, 0, 0) := by decide +kernel
theorem gx105_127 : aF 127 zM105.2.2.2.2.2.2.2 = some (127, (.iinc 1 1), 3, 0, 0) := by decide +kernel
theorem gx105_130 : aF 130 zM105.2.2.2.2.2.2.2 = some (130, (.goto (-104)), 3, 26, 0) := by decide +kernel
theorem gx97_0 : aF 0 zM97.2.2.2.2.2.2.2 = some (0, (.aload_n 0), 1, 0, 0) := by decide +kernel
theorem gx97_1 : aF 1 zM97.2.2.2.2.2.2.2 = some (1, (.iload_n 1), 1, 0, 0) := by decide +kernel
theorem gx97_2 : aF 2 zM97.2.2.2.2.2.2.2 = some (2, (.putfield 9), 3, 8, 3) := by decide +kernel
theorem gx97_5 : aF 5 zM97.2.2.2.2.2.2.2 = some (5, (.aload_n 0), 1, 0, 0) := by decide +kernel
theorem gx97_6 : aF 6 zM97.2.2.2.2.2.2.2 = some (6, (.iload_n 2), 1, 0, 0) := by decide +kernel
theorem gx97_7 : aF 7 zM97.2.2.2.2.2.2.2 = some (7, (.putfield 15), 3, 8, 4) := by decide +kernel
theorem gx97_10 : aF 10 zM97.2.2.2.2.2.2.2 = some (10, (.aload_n 0), 1, 0, 0) := by decide +kernel
theorem gx97_11 : aF 11 zM97.2.2.2.2.2.2.2 = some (11, (.iconst 0), 1, 0, 0) := by decide +kernel
theorem gx97_12 : aF 12 zM97.2.2.2.2.2.2.2 = some (12, (.putfield 51), 3, 8, 5) := by decide +kernel
theorem gx97_15 : aF 15 zM97.2.2.2.2.2.2.2 = some (15, (.iconst 0), 1, 0, 0) := by decide +kernel
theorem gx97_16 : aF 16 zM97.2.2.2.2.2.2.2 = some (16, (.istore_n 3), 1, 0, 0) := by decide +kernel
theorem gx97_17 : aF 17 zM97.2.2.2.2.2.2.2 = some (17, (.iload_n 3), 1, 0, 0) := by decide +kernel
theorem gx97_18 : aF 18 zM97.2.2.2.2.2.2.2 = some (18, (.aload_n 0), 1, 0, 0) := by decide +kernel
theorem gx97_19 : aF 19 zM97.2.2.2.2.2.2.2 = some (19, (.getfield 44), 3, 8, 1) := by decide +kernel
theorem gx97_22 : aF 22 zM97.2.2.2.2.2.2.2 = some (22, (.getfield 54), 3, 2, 1) := by decide +kernel
theorem gx97_25 : aF 25 zM97.2.2.2.2.2.2.2 = some (25, (.if_icmp .ge 56), 3, 81, 0) := by decide +kernel
theorem gx97_81 : aF 81 zM97.2.2.2.2.2.2.2 = some (81, (.aload_n 0), 1, 0, 0) := by decide +kernel
theorem gx97_82 : aF 82 zM97.2.2.2.2.2.2.2 = some (82, (.getfield 22), 3, 8, 7) := by decide +kernel
theorem gx97_85 : aF 85 zM97.2.2.2.2.2.2.2 = some (85, (.iconst 0), 1, 0, 0) := by decide +kernel
theorem gx97_86 : aF 86 zM97.2.2.2.2.2.2.2 = some (86, (.invokestatic 64), 3, 332, 0) := by decide +kernel
theorem gx97_89 : aF 89 zM97.2.2.2.2.2.2.2 = some (89, (.iconst 0), 1, 0, 0) := by decide +kernel
theorem gx97_90 : aF 90 zM97.2.2.2.2.2.2.2 = some (90, (.istore_n 3), 1, 0, 0) := by decide +kernel
theorem gx97_28 : aF 28 zM97.2.2.2.2.2.2.2 = some (28, (.aload_n 0), 1, 0, 0) := by decide +kernel
theorem gx97_29 : aF 29 zM97.2.2.2.2.2.2.2 = some (29, (.getfield 44), 3, 8, 1) := by decide +kernel
theorem gx97_32 : aF 32 zM97.2.2.2.2.2.2.2 = some (32, (.iload_n 3), 1, 0, 0) := by decide +kernel
theorem gx97_33 : aF 33 zM97.2.2.2.2.2.2.2 = some (33, (.aload_n 0), 1, 0, 0) := by decide +kernel
theorem gx97_34 : aF 34 zM97.2.2.2.2.2.2.2 = some (34, (.getfield 48), 3, 8, 2) := by decide +kernel
theorem gx97_37 : aF 37 zM97.2.2.2.2.2.2.2 = some (37, (.aload_n 0), 1, 0, 0) := by decide +kernel
theorem gx97_38 : aF 38 zM97.2.2.2.2.2.2.2 = some (38, (.getfield 9), 3, 8, 3) := by decide +kernel
theorem gx97_41 : aF 41 zM97.2.2.2.2.2.2.2 = some (41, (.invokevirtual 57), 3, 29, 0) := by decide +kernel
theorem gx97_44 : aF 44 zM97.2.2.2.2.2.2.2 = some (44, (.ifCond .eq 31), 3, 75, 0) := by decide +kernel
theorem gx97_75 : aF 75 zM97.2.2.2.2.2.2.2 = some (75, (.iinc 3 1), 3, 0, 0) := by decide +kernel
theorem gx97_78 : aF 78 zM97.2.2.2.2.2.2.2 = some (78, (.goto (-61)), 3, 17, 0) := by decide +kernel
theorem gx97_47 : aF 47 zM97.2.2.2.2.2.2.2 = some (47, (.aload_n 0), 1, 0, 0) := by decide +kernel
theorem gx97_48 : aF 48 zM97.2.2.2.2.2.2.2 = some (48, (.getfield 18), 3, 8, 6) := by decide +kernel
theorem gx97_51 : aF 51 zM97.2.2.2.2.2.2.2 = some (51, (.aload_n 0), 1, 0, 0) := by decide +kernel
theorem gx97_52 : aF 52 zM97.2.2.2.2.2.2.2 = some (52, (.getfield 51), 3, 8, 5) := by decide +kernel
theorem gx97_55 : aF 55 zM97.2.2.2.2.2.2.2 = some (55, (.aload_n 0), 1, 0, 0) := by decide +kernel
theorem gx97_56 : aF 56 zM97.2.2.2.2.2.2.2 = some (56, (.getfield 44), 3, 8, 1) := by decide +kernel
theorem gx97_59 : aF 59 zM97.2.2.2.2.2.2.2 = some (59, (.getfield 61), 3, 2, 8) := by decide +kernel
theorem gx97_62 : aF 62 zM97.2.2.2.2.2.2.2 = some (62, (.iload_n 3), 1, 0, 0) := by decide +kernel
theorem gx97_63 : aF 63 zM97.2.2.2.2.2.2.2 = some (63, .iaload, 1, 0, 0) := by decide +kernel
theorem gx97_64 : aF 64 zM97.2.2.2.2.2.2.2 = some (64, .iastore, 1, 0, 0) := by decide +kernel
theorem gx97_65 : aF 65 zM97.2.2.2.2.2.2.2 = some (65, (.aload_n 0), 1, 0, 0) := by decide +kernel
theorem gx97_66 : aF 66 zM97.2.2.2.2.2.2.2 = some (66, .dup, 1, 0, 0) := by decide +kernel
theorem gx97_67 : aF 67 zM97.2.2.2.2.2.2.2 = some (67, (.getfield 51), 3, 8, 5) := by decide +kernel
theorem gx97_70 : aF 70 zM97.2.2.2.2.2.2.2 = some (70, (.iconst 1), 1, 0, 0) := by decide +kernel
theorem gx97_71 : aF 71 zM97.2.2.2.2.2.2.2 = some (71, .iadd, 1, 0, 0) := by decide +kernel
theorem gx97_72 : aF 72 zM97.2.2.2.2.2.2.2 = some (72, (.putfield 51), 3, 8, 5) := by decide +kernel
theorem gx97_91 : aF 91 zM97.2.2.2.2.2.2.2 = some (91, (.iload_n 3), 1, 0, 0) := by decide +kernel
theorem gx97_92 : aF 92 zM97.2.2.2.2.2.2.2 = some (92, (.bipush 24), 2, 0, 0) := by decide +kernel
theorem gx97_94 : aF 94 zM97.2.2.2.2.2.2.2 = some (94, (.if_icmp .ge 25), 3, 119, 0) := by decide +kernel
theorem gx97_119 : aF 119 zM97.2.2.2.2.2.2.2 = some (119, (.aload_n 0), 1, 0, 0) := by decide +kernel
theorem gx97_120 : aF 120 zM97.2.2.2.2.2.2.2 = some (120, (.invokevirtual 78), 3, 105, 0) := by decide +kernel
theorem gx97_123 : aF 123 zM97.2.2.2.2.2.2.2 = some (123, .return_, 1, 0, 0) := by decide +kernel
theorem gx97_97 : aF 97 zM97.2.2.2.2.2.2.2 = some (97, (.aload_n 0), 1, 0, 0) := by decide +kernel
theorem gx97_98 : aF 98 zM97.2.2.2.2.2.2.2 = some (98, (.getfield 28), 3, 8, 9) := by decide +kernel
theorem gx97_101 : aF 101 zM97.2.2.2.2.2.2.2 = some (101, (.iload_n 3), 1, 0, 0) := by decide +kernel
theorem gx97_102 : aF 102 zM97.2.2.2.2.2.2.2 = some (102, (.aload_n 0), 1, 0, 0) := by decide +kernel
theorem gx97_103 : aF 103 zM97.2.2.2.2.2.2.2 = some (103, (.iload_n 3), 1, 0, 0) := by decide +kernel
theorem gx97_104 : aF 104 zM97.2.2.2.2.2.2.2 = some (104, (.invokevirtual 70), 3, 103, 0) := by decide +kernel
theorem gx97_107 : aF 107 zM97.2.2.2.2.2.2.2 = some (107, .iastore, 1, 0, 0) := by decide +kernel
theorem gx97_108 : aF 108 zM97.2.2.2.2.2.2.2 = some (108, (.aload_n 0), 1, 0, 0) := by decide +kernel
theorem gx97_109 : aF 109 zM97.2.2.2.2.2.2.2 = some (109, (.iload_n 3), 1, 0, 0) := by decide +kernel
theorem gx97_110 : aF 110 zM97.2.2.2.2.2.2.2 = some (110, (.invokevirtual 74), 3, 104, 0) := by decide +kernel
theorem gx97_113 : aF 113 zM97.2.2.2.2.2.2.2 = some (113, (.iinc 3 1), 3, 0, 0) := by decide +kernel
theorem gx97_116 : aF 116 zM97.2.2.2.2.2.2.2 = some (116, (.goto (-25)), 3, 91, 0) := by decide +kernel
theorem d105_0 {n : Nat} {X : aX} {h : aH} {P : aH → Prop} {q0 : Nat} (S : wS h)  (hq0 : 146 ≤ q0) (H : ((vw h) q0 10 = (((q0 + 5) : Nat) : Int) ∧ (((∃ t y, h.1[(q0 + 5)]? = some (.inl (t, 150, y))) ∧ 150 < 2147483648) ∧ ∀ (h_3 : aH), (wS h_3 ∧ hk h h_3 ∧ vw h_3 = fillV (vw h) (q0 + 5) 0 150 0) → ((vw h_3) q0 11 = (((q0 + 6) : Nat) : Int) ∧ (((∃ t y, h_3.1[(q0 + 6)]? = some (.inl (t, 150, y))) ∧ 150 < 2147483648) ∧ ∀ (h_6 : aH), (wS h_6 ∧ hk h_3 h_6 ∧ vw h_6 = fillV (vw h_3) (q0 + 6) 0 150 0) → ((vw h_6) q0 12 = (((q0 + 7) : Nat) : Int) ∧ (((∃ t y, h_6.1[(q0 + 7)]? = some (.inl (t, 150, y))) ∧ 150 < 2147483648) ∧ ∀ (h_9 : aH), (wS h_9 ∧ hk h_6 h_9 ∧ vw h_9 = fillV (vw h_6) (q0 + 7) 0 150 (-1)) → (∀ (w1 : Int32) (u2_ : Option Value), w1.toInt = 0 → Pt n X zM105 26 [some (.ref q0), some (.int w1), u2_] [] h_9 (qN P))))))))) : Pt (n + 1) X zM105 0 [some (.ref q0), none, none] [] h (qN P) := by
  refine pt_1 (fun n d => r_aloadn gx105_0 rfl) ?_
  obtain ⟨pr1, H⟩ := H
  refine pt_d (pt_getK (B := 10) gx105_1 S (pr1) ?_)
  refine pt_d (pt_iconst gx105_4 (fun v2 h2 => ?_))
  obtain ⟨pr3, H⟩ := H
  refine pt_d (pt_stat (as := [.ref (q0 + 5), .int v2]) (r := []) gx105_5 rfl (show zmt[332]? = some zM332 from rfl) rfl rfl rfl rfl (k_332k S h2 150 pr3) (kqN (fun h_3 P3 => ?_)))
  have S3 := P3.1
  have H := H h_3 P3
  show Pt _ _ _ 8 _ [] _ _
  refine pt_d (pt_1 (fun n d => r_aloadn gx105_8 rfl) ?_)
  obtain ⟨pr4, H⟩ := H
  refine pt_d (pt_getK (B := 11) gx105_9 S3 (pr4) ?_)
  refine pt_d (pt_iconst gx105_12 (fun v5 h5 => ?_))
  obtain ⟨pr6, H⟩ := H
  refine pt_d (pt_stat (as := [.ref (q0 + 6), .int v5]) (r := []) gx105_13 rfl (show zmt[332]? = some zM332 from rfl) rfl rfl rfl rfl (k_332k S3 h5 150 pr6) (kqN (fun h_6 P6 => ?_)))
  have S6 := P6.1
  have H := H h_6 P6
  show Pt _ _ _ 16 _ [] _ _
  refine pt_d (pt_1 (fun n d => r_aloadn gx105_16 rfl) ?_)
  obtain ⟨pr7, H⟩ := H
  refine pt_d (pt_getK (B := 12) gx105_17 S6 (pr7) ?_)
  refine pt_d (pt_iconst gx105_20 (fun v8 h8 => ?_))
  obtain ⟨pr9, H⟩ := H
  refine pt_d (pt_stat (as := [.ref (q0 + 7), .int v8]) (r := []) gx105_21 rfl (show zmt[332]? = some zM332 from rfl) rfl rfl rfl rfl (k_332k S6 h8 150 pr9) (kqN (fun h_9 P9 => ?_)))
  have S9 := P9.1
  have H := H h_9 P9
  show Pt _ _ _ 24 _ [] _ _
  refine pt_d (pt_iconst gx105_24 (fun v10 h10 => ?_))
  refine pt_d (pt_1 (fun n d => r_istoren (L' := [some (.ref q0), some (.int v10), none]) gx105_25 rfl rfl) ?_)
  exact H v10 _ h10
theorem d105_26 {n : Nat} {X : aX} {h : aH} {P : aH → Prop} {x1 : Int32} {a1 : Int} {u2 : Option Value} {q0 : Nat} (S : wS h) (z1 : x1.toInt = a1)  (hq0 : 146 ≤ q0) (H : ((vw h q0 5 ≤ a1 → P h) ∧ (a1 < vw h q0 5 → ((vw h q0 1 = ((16 : Nat) : Int) ∧ vw h q0 6 = ((q0 + 1 : Nat) : Int)) ∧ ((vw h) q0 8 = (((q0 + 3) : Nat) : Int) ∧ ((vw h) q0 7 = (((q0 + 2) : Nat) : Int) ∧ (0 ≤ a1 → ((vw h) q0 1 = ((16 : Nat) : Int) ∧ ((vw h) q0 6 = (((q0 + 1) : Nat) : Int) ∧ (0 ≤ a1 → ((0 ≤ vw h 16 3 ∧ vw h 16 3 ≤ 200) ∧ (0 ≤ a1 → ∀ h_14 : aH, wS h_14 → vw h_14 = up (vw h) (q0 + 3) a1 (min (vw h (q0 + 2) a1) (msg (vw h) (vw h (q0 + 1) a1) (vw h q0 2) (vw h q0 3) ((vw h) 16 3).toNat)) → hk h h_14 → (∀ (w2 : Int32), w2.toInt = (vw h) 17 ((vw h) (q0 + 1) a1) → Pt n X zM105 76 [some (.ref q0), some (.int x1), some (.int w2)] [] h_14 (qN P)))))))))))))) : Pt (n + 1) X zM105 26 [some (.ref q0), some (.int x1), u2] [] h (qN P) := by
  refine pt_1 (fun n d => r_iloadn gx105_26 rfl) ?_
  refine pt_d (pt_1 (fun n d => r_aloadn gx105_27 rfl) ?_)
  refine pt_d (pt_getI (B := 5) gx105_28 S (fun v1 h1 => ?_))
  refine pt_d (pt_icmp_ge gx105_31 z1 h1 (fun e2 => ?_) (fun e2 => ?_))
  · have H := H.1 e2
    exact pt_d (pt_vret gx105_133 ⟨rfl, H⟩)
  · have H := H.2 e2
    refine pt_d (pt_1 (fun n d => r_aloadn gx105_34 rfl) ?_)
    refine pt_d (pt_1 (fun n d => r_iloadn gx105_35 rfl) ?_)
    obtain ⟨pr3, H⟩ := H
    refine pt_d (pt_virt (as := [.int x1]) (r := []) gx105_36 rfl (show zmt[100]? = some zM100 from rfl) rfl rfl rfl rfl (c_100 S z1 pr3) (kqP (fun v3 h3 => ?_)))
    show Pt _ _ _ 39 _ [.int v3] _ _
    refine pt_d (pt_1 (fun n d => r_istoren (L' := [some (.ref q0), some (.int x1), some (.int v3)]) gx105_39 rfl rfl) ?_)
    refine pt_d (pt_1 (fun n d => r_aloadn gx105_40 rfl) ?_)
    obtain ⟨pr4, H⟩ := H
    refine pt_d (pt_getK (B := 8) gx105_41 S (pr4) ?_)
    refine pt_d (pt_1 (fun n d => r_iloadn gx105_44 rfl) ?_)
    refine pt_d (pt_1 (fun n d => r_aloadn gx105_45 rfl) ?_)
    obtain ⟨pr5, H⟩ := H
    refine pt_d (pt_getK (B := 7) gx105_46 S (pr5) ?_)
    refine pt_d (pt_1 (fun n d => r_iloadn gx105_49 rfl) ?_)
    refine pt_d (pt_ialdD gx105_50 z1 (fun v6 p6 h6 => ?_))
    have H := H p6
    refine pt_d (pt_1 (fun n d => r_aloadn gx105_51 rfl) ?_)
    obtain ⟨pr7, H⟩ := H
    refine pt_d (pt_getK (B := 1) gx105_52 S (pr7) ?_)
    refine pt_d (pt_1 (fun n d => r_aloadn gx105_55 rfl) ?_)
    obtain ⟨pr8, H⟩ := H
    refine pt_d (pt_getK (B := 6) gx105_56 S (pr8) ?_)
    refine pt_d (pt_1 (fun n d => r_iloadn gx105_59 rfl) ?_)
    refine pt_d (pt_ialdD gx105_60 z1 (fun v9 p9 h9 => ?_))
    have H := H p9
    refine pt_d (pt_1 (fun n d => r_aloadn gx105_61 rfl) ?_)
    refine pt_d (pt_getI (B := 2) gx105_62 S (fun v10 h10 => ?_))
    refine pt_d (pt_1 (fun n d => r_aloadn gx105_65 rfl) ?_)
    refine pt_d (pt_getI (B := 3) gx105_66 S (fun v11 h11 => ?_))
    obtain ⟨pr12, H⟩ := H
    refine pt_d (pt_virt (as := [.int v9, .int v10, .int v11]) (r := [.int v6, .int x1, .ref (q0 + 3)]) gx105_69 rfl (show zmt[35]? = some zM35 from rfl) rfl rfl rfl rfl (c_35 S h9 h10 h11 pr12) (kqP (fun v12 h12 => ?_)))
    show Pt _ _ _ 72 _ [.int v12, .int v6, .int x1, .ref (q0 + 3)] _ _
    refine pt_d (pt_min gx105_72 rfl h6 h12 (fun v13 h13 => ?_))
    refine pt_d (pt_iastDk gx105_75 S z1 h13 (fun h_14 S14 p14 e14 K14 => ?_))
    have H := H p14
    have H := H h_14 S14 (by rw [e14]) K14
    exact H v3 h3
theorem d105_76 {n : Nat} {X : aX} {h : aH} {P : aH → Prop} {x1 x2 : Int32} {a1 a2 : Int} {q0 : Nat} (S : wS h) (z1 : x1.toInt = a1) (z2 : x2.toInt = a2)  (hq0 : 146 ≤ q0) (H : ((vw h) q0 10 = (((q0 + 5) : Nat) : Int) ∧ (0 ≤ a2 → ((vw h) q0 7 = (((q0 + 2) : Nat) : Int) ∧ (0 ≤ a1 → (0 ≤ a2 → ∀ h_6 : aH, wS h_6 → vw h_6 = up (vw h) (q0 + 5) a2 (w32 ((vw h (q0 + 5) a2) + (vw h (q0 + 2) a1))) → hk h h_6 → Pt n X zM105 91 [some (.ref q0), some (.int x1), some (.int x2)] [] h_6 (qN P))))))) : Pt (n + 1) X zM105 76 [some (.ref q0), some (.int x1), some (.int x2)] [] h (qN P) := by
  refine pt_1 (fun n d => r_aloadn gx105_76 rfl) ?_
  obtain ⟨pr1, H⟩ := H
  refine pt_d (pt_getK (B := 10) gx105_77 S (pr1) ?_)
  refine pt_d (pt_1 (fun n d => r_iloadn gx105_80 rfl) ?_)
  refine pt_d (pt_1 (fun n d => r_dup2 gx105_81 rfl) ?_)
  refine pt_d (pt_ialdD gx105_82 z2 (fun v2 p2 h2 => ?_))
  have H := H p2
  refine pt_d (pt_1 (fun n d => r_aloadn gx105_83 rfl) ?_)
  obtain ⟨pr3, H⟩ := H
  refine pt_d (pt_getK (B := 7) gx105_84 S (pr3) ?_)
  refine pt_d (pt_1 (fun n d => r_iloadn gx105_87 rfl) ?_)
  refine pt_d (pt_ialdD gx105_88 z1 (fun v4 p4 h4 => ?_))
  have H := H p4
  refine pt_d (pt_iadd gx105_89 h2 h4 (fun v5 h5 => ?_))
  refine pt_d (pt_iastDk gx105_90 S z2 h5 (fun h_6 S6 p6 e6 K6 => ?_))
  have H := H p6
  have H := H h_6 S6 (by rw [e6]) K6
  exact H
theorem d105_91 {n : Nat} {X : aX} {h : aH} {P : aH → Prop} {x1 x2 : Int32} {a1 a2 : Int} {q0 : Nat} (S : wS h) (z1 : x1.toInt = a1) (z2 : x2.toInt = a2)  (hq0 : 146 ≤ q0) (H : ((vw h) q0 11 = (((q0 + 6) : Nat) : Int) ∧ (0 ≤ a2 → ((vw h) q0 8 = (((q0 + 3) : Nat) : Int) ∧ (0 ≤ a1 → (0 ≤ a2 → ∀ h_6 : aH, wS h_6 → vw h_6 = up (vw h) (q0 + 6) a2 (w32 ((vw h (q0 + 6) a2) + (vw h (q0 + 3) a1))) → hk h h_6 → Pt n X zM105 106 [some (.ref q0), some (.int x1), some (.int x2)] [] h_6 (qN P))))))) : Pt (n + 1) X zM105 91 [some (.ref q0), some (.int x1), some (.int x2)] [] h (qN P) := by
  refine pt_1 (fun n d => r_aloadn gx105_91 rfl) ?_
  obtain ⟨pr1, H⟩ := H
  refine pt_d (pt_getK (B := 11) gx105_92 S (pr1) ?_)
  refine pt_d (pt_1 (fun n d => r_iloadn gx105_95 rfl) ?_)
  refine pt_d (pt_1 (fun n d => r_dup2 gx105_96 rfl) ?_)
  refine pt_d (pt_ialdD gx105_97 z2 (fun v2 p2 h2 => ?_))
  have H := H p2
  refine pt_d (pt_1 (fun n d => r_aloadn gx105_98 rfl) ?_)
  obtain ⟨pr3, H⟩ := H
  refine pt_d (pt_getK (B := 8) gx105_99 S (pr3) ?_)
  refine pt_d (pt_1 (fun n d => r_iloadn gx105_102 rfl) ?_)
  refine pt_d (pt_ialdD gx105_103 z1 (fun v4 p4 h4 => ?_))
  have H := H p4
  refine pt_d (pt_iadd gx105_104 h2 h4 (fun v5 h5 => ?_))
  refine pt_d (pt_iastDk gx105_105 S z2 h5 (fun h_6 S6 p6 e6 K6 => ?_))
  have H := H p6
  have H := H h_6 S6 (by rw [e6]) K6
  exact H
theorem d105_106 {n : Nat} {X : aX} {h : aH} {P : aH → Prop} {x1 x2 : Int32} {a1 a2 : Int} {q0 : Nat} (S : wS h) (z1 : x1.toInt = a1) (z2 : x2.toInt = a2)  (hq0 : 146 ≤ q0) (H : ((vw h) q0 12 = (((q0 + 7) : Nat) : Int) ∧ ((vw h) q0 12 = (((q0 + 7) : Nat) : Int) ∧ (0 ≤ a2 → ((vw h) q0 6 = (((q0 + 1) : Nat) : Int) ∧ (0 ≤ a1 → (0 ≤ a2 → ∀ h_7 : aH, wS h_7 → vw h_7 = up (vw h) (q0 + 7) a2 (max (vw h (q0 + 7) a2) (vw h (q0 + 1) a1)) → hk h h_7 → Pt n X zM105 127 [some (.ref q0), some (.int x1), some (.int x2)] [] h_7 (qN P)))))))) : Pt (n + 1) X zM105 106 [some (.ref q0), some (.int x1), some (.int x2)] [] h (qN P) := by
  refine pt_1 (fun n d => r_aloadn gx105_106 rfl) ?_
  obtain ⟨pr1, H⟩ := H
  refine pt_d (pt_getK (B := 12) gx105_107 S (pr1) ?_)
  refine pt_d (pt_1 (fun n d => r_iloadn gx105_110 rfl) ?_)
  refine pt_d (pt_1 (fun n d => r_aloadn gx105_111 rfl) ?_)
  obtain ⟨pr2, H⟩ := H
  refine pt_d (pt_getK (B := 12) gx105_112 S (pr2) ?_)
  refine pt_d (pt_1 (fun n d => r_iloadn gx105_115 rfl) ?_)
  refine pt_d (pt_ialdD gx105_116 z2 (fun v3 p3 h3 => ?_))
  have H := H p3
  refine pt_d (pt_1 (fun n d => r_aloadn gx105_117 rfl) ?_)
  obtain ⟨pr4, H⟩ := H
  refine pt_d (pt_getK (B := 6) gx105_118 S (pr4) ?_)
  refine pt_d (pt_1 (fun n d => r_iloadn gx105_121 rfl) ?_)
  refine pt_d (pt_ialdD gx105_122 z1 (fun v5 p5 h5 => ?_))
  have H := H p5
  refine pt_d (pt_max gx105_123 rfl h3 h5 (fun v6 h6 => ?_))
  refine pt_d (pt_iastDk gx105_126 S z2 h6 (fun h_7 S7 p7 e7 K7 => ?_))
  have H := H p7
  have H := H h_7 S7 (by rw [e7]) K7
  exact H
theorem d105_127 {n : Nat} {X : aX} {h : aH} {P : aH → Prop} {x1 x2 : Int32} {a1 a2 : Int} {q0 : Nat} (S : wS h) (z1 : x1.toInt = a1) (z2 : x2.toInt = a2)  (hq0 : 146 ≤ q0) (H : (∀ (w1 : Int32) (u2_ : Option Value), w1.toInt = w32 (a1 + 1) → Pt n X zM105 26 [some (.ref q0), some (.int w1), u2_] [] h (qN P))) : Pt (n + 1) X zM105 127 [some (.ref q0), some (.int x1), some (.int x2)] [] h (qN P) := by
  refine pt_iinc (c := 1) gx105_127 rfl z1 (fun v1 h1 => ?_)
  show Pt _ _ _ _ [some (.ref q0), some (.int v1), some (.int x2)] [] _ _
  refine pt_d (pt_1 (fun n d => r_goto gx105_130) ?_)
  exact H v1 _ h1
def suS (V : vS) (q : Nat) (i : Int) : vS := up (up (up (up V (q + 3) i (min (V (q + 2) i) (msg V (V (q + 1) i) (V q 2) (V q 3) (V 16 3).toNat))) (q + 5) (fmA V (q + 1) i) (w32 (V (q + 5) (fmA V (q + 1) i) + V (q + 2) i))) (q + 6) (fmA V (q + 1) i) (w32 (V (q + 6) (fmA V (q + 1) i) + min (V (q + 2) i) (msg V (V (q + 1) i) (V q 2) (V q 3) (V 16 3).toNat)))) (q + 7) (fmA V (q + 1) i) (max (V (q + 7) (fmA V (q + 1) i)) (V (q + 1) i))
def suN (V : vS) (q : Nat) : Nat → vS
  | 0 => V
  | i + 1 => suS (suN V q i) q (i : Nat)
theorem suN_c {V : vS} {q c : Nat} (h3 : c ≠ q + 3) (h5 : c ≠ q + 5) (h6 : c ≠ q + 6) (h7 : c ≠ q + 7) : ∀ (i : Nat) (j : Int), suN V q i c j = V c j
  | 0, _ => rfl
  | i + 1, j => by
    have e : suN V q (i + 1) = suS (suN V q i) q (i : Nat) := rfl
    rw [e]
    unfold suS
    rw [up_c h7, up_c h6, up_c h5, up_c h3]
    exact suN_c h3 h5 h6 h7 i j
def suF (V : vS) (q : Nat) : vS := suN (fillV (fillV (fillV V (q + 5) 0 150 0) (q + 6) 0 150 0) (q + 7) 0 150 (-1)) q (V q 5).toNat
theorem suF_c {V : vS} {q c : Nat} (h3 : c ≠ q + 3) (h5 : c ≠ q + 5) (h6 : c ≠ q + 6) (h7 : c ≠ q + 7) (j : Int) : suF V q c j = V c j := by
  unfold suF
  rw [suN_c h3 h5 h6 h7, fillV_c h7, fillV_c h6, fillV_c h5]
def sfl (V : vS) (q : Nat) : Prop := V q 7 = ((q + 2 : Nat) : Int) ∧ V q 8 = ((q + 3 : Nat) : Int) ∧ V q 9 = ((q + 4 : Nat) : Int) ∧ V q 10 = ((q + 5 : Nat) : Int) ∧ V q 11 = ((q + 6 : Nat) : Int) ∧ V q 12 = ((q + 7 : Nat) : Int)
theorem l_105 {X : aX} {V : vS} {h0 : aH} {q0 : Nat} (hq0 : 146 ≤ q0) (L : lst V q0) (F : sfl V q0) (hc : 0 ≤ V 16 3 ∧ V 16 3 ≤ 200) : ∀ (n : Nat) (h : aH) (x1 : Int32) (u2 : Option Value) (i : Nat), wS h → hk h0 h → x1.toInt = (i : Int) → (i : Int) ≤ V q0 5 → vw h = suN V q0 i → Pt n X zM105 26 [some (.ref q0), some (.int x1), u2] [] h (qN (fun h' => wS h' ∧ hk h0 h' ∧ vw h' = suN V q0 (V q0 5).toNat)) := by
  obtain ⟨⟨k0, k1, k6⟩, hN, hf, hs⟩ := L
  obtain ⟨k7, k8, k9, k10, k11, k12⟩ := F
  intro n
  induction n with
  | zero => exact fun _ _ _ _ _ _ _ _ _ => pt_z
  | succ n ih =>
    intro h x1 u2 i S K h1 iN e
    have c : ∀ (c : Nat) j, c ≠ q0 + 3 → c ≠ q0 + 5 → c ≠ q0 + 6 → c ≠ q0 + 7 → vw h c j = V c j := fun c j a b d f => by rw [e]; exact suN_c a b d f i j
    have eq : ∀ j, vw h q0 j = V q0 j := fun j => c q0 j (by omega) (by omega) (by omega) (by omega)
    have e16 : vw h 16 3 = V 16 3 := c 16 3 (by omega) (by omega) (by omega) (by omega)
    have pc : vw h q0 1 = ((16 : Nat) : Int) ∧ vw h q0 6 = ((q0 + 1 : Nat) : Int) := ⟨(eq 1).trans k1, (eq 6).trans k6⟩
    have e5 := eq 5
    refine d105_26 S h1 hq0 ⟨fun e1 => ⟨S, K, ?_⟩, fun e1 => ⟨pc, (eq 8).trans k8, (eq 7).trans k7, fun _ => ⟨pc.1, pc.2, fun _ => ⟨by rw [e16]; exact hc, fun _ h14 S14 e14 K14 w2 g2 => ?_⟩⟩⟩⟩
    · rw [e]
      congr 1
      omega
    have q14 : ∀ (c : Nat) j, c ≠ q0 + 3 → vw h14 c j = vw h c j := fun c j a => by rw [e14, up_c a]
    have s14 : vw h14 (q0 + 3) (i : Int) = min (vw h (q0 + 2) (i : Int)) (msg (vw h) (vw h (q0 + 1) (i : Int)) (vw h q0 2) (vw h q0 3) (vw h 16 3).toNat) := by rw [e14, up_s]
    refine pt_d (d105_76 S14 h1 g2 hq0 ⟨(q14 q0 10 (by omega)).trans ((eq 10).trans k10), fun _ => ⟨(q14 q0 7 (by omega)).trans ((eq 7).trans k7), fun _ _ h6 S6 e6 K6 => ?_⟩⟩)
    have q6 : ∀ (c : Nat) j, c ≠ q0 + 5 → vw h6 c j = vw h14 c j := fun c j a => by rw [e6, up_c a]
    refine pt_d (d105_91 S6 h1 g2 hq0 ⟨(q6 q0 11 (by omega)).trans ((q14 q0 11 (by omega)).trans ((eq 11).trans k11)), fun _ => ⟨(q6 q0 8 (by omega)).trans ((q14 q0 8 (by omega)).trans ((eq 8).trans k8)), fun _ _ h7 S7 e7 K7 => ?_⟩⟩)
    have q7 : ∀ (c : Nat) j, c ≠ q0 + 6 → vw h7 c j = vw h6 c j := fun c j a => by rw [e7, up_c a]
    have f12 : vw h7 q0 12 = ((q0 + 7 : Nat) : Int) := (q7 q0 12 (by omega)).trans ((q6 q0 12 (by omega)).trans ((q14 q0 12 (by omega)).trans ((eq 12).trans k12)))
    refine pt_d (d105_106 S7 h1 g2 hq0 ⟨f12, f12, fun _ => ⟨(q7 q0 6 (by omega)).trans ((q6 q0 6 (by omega)).trans ((q14 q0 6 (by omega)).trans pc.2)), fun _ _ h8 S8 e8 K8 => ?_⟩⟩)
    refine pt_d (d105_127 S8 h1 g2 hq0 (fun w1 u2 g1 => ?_))
    replace g1 := w_1 g1 (by omega) (by omega)
    refine ih h8 w1 u2 (i + 1) S8 (hk_t K (hk_t K14 (hk_t K6 (hk_t K7 K8)))) (by omega) (by omega) ?_
    have es : suN V q0 (i + 1) = suS (suN V q0 i) q0 (i : Nat) := rfl
    rw [es, ← e]
    unfold suS
    show vw h8 = up (up (up (up (vw h) (q0 + 3) (i : Int) _) (q0 + 5) (vw h 17 (vw h (q0 + 1) (i : Int))) _) (q0 + 6) (vw h 17 (vw h (q0 + 1) (i : Int))) _) (q0 + 7) (vw h 17 (vw h (q0 + 1) (i : Int))) _
    rw [e8, q7 (q0 + 7) _ (by omega), q6 (q0 + 7) _ (by omega), q14 (q0 + 7) _ (by omega), q7 (q0 + 1) _ (by omega), q6 (q0 + 1) _ (by omega), q14 (q0 + 1) _ (by omega), e7, q6 (q0 + 6) _ (by omega), q14 (q0 + 6) _ (by omega), q6 (q0 + 3) _ (by omega), s14, e6, q14 (q0 + 5) _ (by omega), q14 (q0 + 2) _ (by omega), e14]
    rfl
def pre105 (h : aH) (q : Nat) : Prop := lst (vw h) q ∧ sfl (vw h) q ∧ ((∃ t y, h.1[q + 5]? = some (.inl (t, 150, y))) ∧ (∃ t y, h.1[q + 6]? = some (.inl (t, 150, y))) ∧ (∃ t y, h.1[q + 7]? = some (.inl (t, 150, y)))) ∧ 0 ≤ vw h 16 3 ∧ vw h 16 3 ≤ 200
theorem lst_c {V V' : vS} {q : Nat} (L : lst V q) (h1 : ∀ j, V' q j = V q j) (h2 : ∀ j, V' (q + 1) j = V (q + 1) j) (h3 : ∀ j, V' 17 j = V 17 j) (h4 : ∀ j, V' 18 j = V 18 j) : lst V' q := by
  unfold lst fdA fmA at L ⊢
  simp only [h1, h2, h3, h4]
  exact L
theorem hk_a {h h' : aH} {c N : Nat} (K : hk h h') (e : ∃ t y, h.1[c]? = some (.inl (t, N, y))) : ∃ t y, h'.1[c]? = some (.inl (t, N, y)) := by
  obtain ⟨t, y, e⟩ := e
  obtain ⟨y', e'⟩ := K _ _ _ _ e
  exact ⟨t, y', e'⟩
theorem c_105 {n : Nat} {X : aX} {h : aH} {q0 : Nat} (S : wS h) (hq0 : 146 ≤ q0) (hp : pre105 h q0) : Pt n X zM105 0 [some (.ref q0), none, none] [] h (qN (fun h' => wS h' ∧ hk h h' ∧ vw h' = suF (vw h) q0)) := by
  obtain ⟨L, F, ⟨y10, y11, y12⟩, hc⟩ := hp
  have F' := F
  obtain ⟨k7, k8, k9, k10, k11, k12⟩ := F
  refine pt_d (d105_0 S hq0 ⟨k10, ⟨y10, by decide⟩, fun h3 k3 => ⟨?_, ⟨hk_a k3.2.1 y11, by decide⟩, fun h6 k6 => ⟨?_, ⟨hk_a k6.2.1 (hk_a k3.2.1 y12), by decide⟩, fun h9 k9' w1 u2 g1 => ?_⟩⟩⟩)
  · rw [k3.2.2, fillV_c (by omega)]
    exact k11
  · rw [k6.2.2, fillV_c (by omega), k3.2.2, fillV_c (by omega)]
    exact k12
  have ev : vw h9 = fillV (fillV (fillV (vw h) (q0 + 5) 0 150 0) (q0 + 6) 0 150 0) (q0 + 7) 0 150 (-1) := by
    have a := k9'.2.2
    have b := k6.2.2
    have c := k3.2.2
    rw [a, b, c]
  have c : ∀ (c : Nat) j, c ≠ q0 + 5 → c ≠ q0 + 6 → c ≠ q0 + 7 → fillV (fillV (fillV (vw h) (q0 + 5) 0 150 0) (q0 + 6) 0 150 0) (q0 + 7) 0 150 (-1) c j = vw h c j := fun c j a b d => by rw [fillV_c d, fillV_c b, fillV_c a]
  have eq : ∀ j, fillV (fillV (fillV (vw h) (q0 + 5) 0 150 0) (q0 + 6) 0 150 0) (q0 + 7) 0 150 (-1) q0 j = vw h q0 j := fun j => c q0 j (by omega) (by omega) (by omega)
  have e5 := eq 5
  refine pt_q (l_105 hq0 (lst_c L eq (fun j => c _ j (by omega) (by omega) (by omega)) (fun j => c _ j (by omega) (by omega) (by omega)) (fun j => c _ j (by omega) (by omega) (by omega))) ?_ (by rw [c 16 3 (by omega) (by omega) (by omega)]; exact hc) n h9 w1 u2 0 k9'.1 (hk_t k3.2.1 (hk_t k6.2.1 k9'.2.1)) g1 (by rw [e5]; exact L.2.1.1) ev) ?_
  · unfold sfl
    simp only [eq]
    exact F'
  · rintro v h' ⟨e0, p1, p2, p3⟩
    refine ⟨e0, p1, p2, ?_⟩
    rw [p3, e5]
    rfl
end
section
-- ===== seasons: summed up and built =====
theorem d97_0 {n : Nat} {X : aX} {h : aH} {P : aH → Prop} {x1 x2 : Int32} {a1 a2 : Int} {q0 : Nat} (S : wS h) (z1 : x1.toInt = a1) (z2 : x2.toInt = a2)  (hq0 : 146 ≤ q0) (H : ∀ h_4 : aH, wS h_4 → vw h_4 = up (up (up (vw h) q0 3 a1) q0 4 a2) q0 5 0 → hk h h_4 → (∀ (w3 : Int32), w3.toInt = 0 → Pt n X zM97 17 [some (.ref q0), some (.int x1), some (.int x2), some (.int w3)] [] h_4 (qN P))) : Pt (n + 1) X zM97 0 [some (.ref q0), some (.int x1), some (.int x2), none] [] h (qN P) := by
  refine pt_1 (fun n d => r_aloadn gx97_0 rfl) ?_
  refine pt_d (pt_1 (fun n d => r_iloadn gx97_1 rfl) ?_)
  refine pt_d (pt_putIk (B := 3) gx97_2 S hq0 z1 (fun h_1 S1 e1 K1 => ?_))
  refine pt_d (pt_1 (fun n d => r_aloadn gx97_5 rfl) ?_)
  refine pt_d (pt_1 (fun n d => r_iloadn gx97_6 rfl) ?_)
  refine pt_d (pt_putIk (B := 4) gx97_7 S1 hq0 z2 (fun h_2 S2 e2 K2 => ?_))
  refine pt_d (pt_1 (fun n d => r_aloadn gx97_10 rfl) ?_)
  refine pt_d (pt_iconst gx97_11 (fun v3 h3 => ?_))
  refine pt_d (pt_putIk (B := 5) gx97_12 S2 hq0 h3 (fun h_4 S4 e4 K4 => ?_))
  refine pt_d (pt_iconst gx97_15 (fun v5 h5 => ?_))
  refine pt_d (pt_1 (fun n d => r_istoren (L' := [some (.ref q0), some (.int x1), some (.int x2), some (.int v5)]) gx97_16 rfl rfl) ?_)
  have H := H h_4 S4 (by rw [e4, e2, e1]) (hk_t (hk_t K1 K2) K4)
  exact H v5 h5
theorem d97_17 {n : Nat} {X : aX} {h : aH} {P : aH → Prop} {x1 x2 x3 : Int32} {a1 a2 a3 : Int} {q0 : Nat} (S : wS h) (z1 : x1.toInt = a1) (z2 : x2.toInt = a2) (z3 : x3.toInt = a3)  (hq0 : 146 ≤ q0) (H : ((vw h) q0 1 = ((16 : Nat) : Int) ∧ ((vw h 16 1 ≤ a3 → ((vw h) q0 7 = (((q0 + 2) : Nat) : Int) ∧ (((∃ t y, h.1[(q0 + 2)]? = some (.inl (t, 300, y))) ∧ 300 < 2147483648) ∧ ∀ (h_6 : aH), (wS h_6 ∧ hk h h_6 ∧ vw h_6 = fillV (vw h) (q0 + 2) 0 300 0) → (∀ (w3 : Int32), w3.toInt = 0 → Pt n X zM97 91 [some (.ref q0), some (.int x1), some (.int x2), some (.int w3)] [] h_6 (qN P))))) ∧ (a3 < vw h 16 1 → ((vw h) q0 1 = ((16 : Nat) : Int) ∧ ((¬ (cnt (vw h) a3 (vw h q0 2) (vw h q0 3)) → (∀ (w3 : Int32), w3.toInt = w32 (a3 + 1) → Pt n X zM97 17 [some (.ref q0), some (.int x1), some (.int x2), some (.int w3)] [] h (qN P))) ∧ ((cnt (vw h) a3 (vw h q0 2) (vw h q0 3)) → ((vw h) q0 6 = (((q0 + 1) : Nat) : Int) ∧ ((vw h) q0 1 = ((16 : Nat) : Int) ∧ (0 ≤ a3 → a3 < 300 → (0 ≤ vw h q0 5 → ∀ h_23 : aH, wS h_23 → vw h_23 = up (up (vw h) (q0 + 1) (vw h q0 5) (vw h 21 a3)) q0 5 (w32 (((up (vw h) (q0 + 1) (vw h q0 5) (vw h 21 a3)) q0 5) + 1)) → hk h h_23 → (∀ (w3 : Int32), w3.toInt = w32 (a3 + 1) → Pt n X zM97 17 [some (.ref q0), some (.int x1), some (.int x2), some (.int w3)] [] h_23 (qN P))))))))))))) : Pt (n + 1) X zM97 17 [some (.ref q0), some (.int x1), some (.int x2), some (.int x3)] [] h (qN P) := by
  refine pt_1 (fun n d => r_iloadn gx97_17 rfl) ?_
  refine pt_d (pt_1 (fun n d => r_aloadn gx97_18 rfl) ?_)
  obtain ⟨pr1, H⟩ := H
  refine pt_d (pt_getK (B := 1) gx97_19 S (pr1) ?_)
  refine pt_d (pt_getI (B := 1) gx97_22 S (fun v2 h2 => ?_))
  refine pt_d (pt_icmp_ge gx97_25 z3 h2 (fun e3 => ?_) (fun e3 => ?_))
  · have H := H.1 e3
    refine pt_d (pt_1 (fun n d => r_aloadn gx97_81 rfl) ?_)
    obtain ⟨pr4, H⟩ := H
    refine pt_d (pt_getK (B := 7) gx97_82 S (pr4) ?_)
    refine pt_d (pt_iconst gx97_85 (fun v5 h5 => ?_))
    obtain ⟨pr6, H⟩ := H
    refine pt_d (pt_stat (as := [.ref (q0 + 2), .int v5]) (r := []) gx97_86 rfl (show zmt[332]? = some zM332 from rfl) rfl rfl rfl rfl (k_332k S h5 300 pr6) (kqN (fun h_6 P6 => ?_)))
    have S6 := P6.1
    have H := H h_6 P6
    show Pt _ _ _ 89 _ [] _ _
    refine pt_d (pt_iconst gx97_89 (fun v7 h7 => ?_))
    refine pt_d (pt_1 (fun n d => r_istoren (L' := [some (.ref q0), some (.int x1), some (.int x2), some (.int v7)]) gx97_90 rfl rfl) ?_)
    exact H v7 h7
  · have H := H.2 e3
    refine pt_d (pt_1 (fun n d => r_aloadn gx97_28 rfl) ?_)
    obtain ⟨pr8, H⟩ := H
    refine pt_d (pt_getK (B := 1) gx97_29 S (pr8) ?_)
    refine pt_d (pt_1 (fun n d => r_iloadn gx97_32 rfl) ?_)
    refine pt_d (pt_1 (fun n d => r_aloadn gx97_33 rfl) ?_)
    refine pt_d (pt_getI (B := 2) gx97_34 S (fun v9 h9 => ?_))
    refine pt_d (pt_1 (fun n d => r_aloadn gx97_37 rfl) ?_)
    refine pt_d (pt_getI (B := 3) gx97_38 S (fun v10 h10 => ?_))
    refine pt_d (pt_virt (as := [.int x3, .int v9, .int v10]) (r := []) gx97_41 rfl (show zmt[29]? = some zM29 from rfl) rfl rfl rfl rfl (c_29 S z3 h9 h10) (kqP (fun v11 h11 => ?_)))
    show Pt _ _ _ 44 _ [.int v11] _ _
    refine pt_d (pt_ifB_eq gx97_44 h11 (fun e12 => ?_) (fun e12 => ?_))
    · have H := H.1 e12
      refine pt_d (pt_iinc (c := 1) gx97_75 rfl z3 (fun v13 h13 => ?_))
      show Pt _ _ _ _ [some (.ref q0), some (.int x1), some (.int x2), some (.int v13)] [] _ _
      refine pt_d (pt_1 (fun n d => r_goto gx97_78) ?_)
      exact H v13 h13
    · have H := H.2 e12
      refine pt_d (pt_1 (fun n d => r_aloadn gx97_47 rfl) ?_)
      obtain ⟨pr14, H⟩ := H
      refine pt_d (pt_getK (B := 6) gx97_48 S (pr14) ?_)
      refine pt_d (pt_1 (fun n d => r_aloadn gx97_51 rfl) ?_)
      refine pt_d (pt_getI (B := 5) gx97_52 S (fun v15 h15 => ?_))
      refine pt_d (pt_1 (fun n d => r_aloadn gx97_55 rfl) ?_)
      obtain ⟨pr16, H⟩ := H
      refine pt_d (pt_getK (B := 1) gx97_56 S (pr16) ?_)
      refine pt_d (pt_getR gx97_59 S tr_16_8 ?_)
      refine pt_d (pt_1 (fun n d => r_iloadn gx97_62 rfl) ?_)
      refine pt_d (pt_iald (N' := 300) gx97_63 S tl_21 z3 (fun v18 p18 q18 h18 => ?_))
      have H := H p18 q18
      refine pt_d (pt_iastDk gx97_64 S h15 h18 (fun h_19 S19 p19 e19 K19 => ?_))
      have H := H p19
      refine pt_d (pt_1 (fun n d => r_aloadn gx97_65 rfl) ?_)
      refine pt_d (pt_1 (fun n d => r_dup gx97_66 rfl) ?_)
      refine pt_d (pt_getI (B := 5) gx97_67 S19 (fun v20 h20 => ?_))
      have h20 : v20.toInt = (up (vw h) (q0 + 1) (vw h q0 5) (vw h 21 a3)) q0 5 := by rw [h20, e19]
      refine pt_d (pt_iconst gx97_70 (fun v21 h21 => ?_))
      refine pt_d (pt_iadd gx97_71 h20 h21 (fun v22 h22 => ?_))
      refine pt_d (pt_putIk (B := 5) gx97_72 S19 hq0 h22 (fun h_23 S23 e23 K23 => ?_))
      refine pt_d (pt_iinc (c := 1) gx97_75 rfl z3 (fun v24 h24 => ?_))
      show Pt _ _ _ _ [some (.ref q0), some (.int x1), some (.int x2), some (.int v24)] [] _ _
      refine pt_d (pt_1 (fun n d => r_goto gx97_78) ?_)
      have H := H h_23 S23 (by rw [e23, e19]) (hk_t K19 K23)
      exact H v24 h24
theorem d97_91 {n : Nat} {X : aX} {h : aH} {P : aH → Prop} {x1 x2 x3 : Int32} {a1 a2 a3 : Int} {q0 : Nat} (S : wS h) (z1 : x1.toInt = a1) (z2 : x2.toInt = a2) (z3 : x3.toInt = a3)  (hq0 : 146 ≤ q0) (H : ((24 ≤ a3 → ((pre105 h q0) ∧ ∀ (h_3 : aH), (wS h_3 ∧ hk h h_3 ∧ vw h_3 = suF (vw h) q0) → P h_3)) ∧ (a3 < 24 → ((vw h) q0 9 = (((q0 + 4) : Nat) : Int) ∧ ((lst (vw h) q0 ∧ 0 ≤ a3 ∧ a3 < 24) ∧ ∀ (y5 : Int) (h_5 : aH), (wS h_5 ∧ h_5 = h ∧ R103 (vw h) q0 a3 y5) → (0 ≤ a3 → ∀ h_6 : aH, wS h_6 → vw h_6 = up (vw h_5) (q0 + 4) a3 y5 → hk h_5 h_6 → ((pre104 (vw h_6) q0 ∧ (0 ≤ a3 ∧ a3 < 24) ∧ vw h_6 q0 9 = ((q0 + 4 : Nat) : Int) ∧ 0 ≤ vw h_6 16 2 ∧ vw h_6 16 2 ≤ 40) ∧ ∀ (h_7 : aH), (wS h_7 ∧ hk h_6 h_7 ∧ vw h_7 = szV (vw h_6) (q0 + 1) (q0 + 2) a3 (barA (vw h_6) q0 a3) (vw h_6 q0 5)) → (∀ (w3 : Int32), w3.toInt = w32 (a3 + 1) → Pt n X zM97 91 [some (.ref q0), some (.int x1), some (.int x2), some (.int w3)] [] h_7 (qN P))))))))) : Pt (n + 1) X zM97 91 [some (.ref q0), some (.int x1), some (.int x2), some (.int x3)] [] h (qN P) := by
  refine pt_1 (fun n d => r_iloadn gx97_91 rfl) ?_
  refine pt_d (pt_bipush gx97_92 (fun v1 h1 => ?_))
  refine pt_d (pt_icmp_ge gx97_94 z3 h1 (fun e2 => ?_) (fun e2 => ?_))
  · have H := H.1 e2
    refine pt_d (pt_1 (fun n d => r_aloadn gx97_119 rfl) ?_)
    obtain ⟨pr3, H⟩ := H
    refine pt_d (pt_virt (as := []) (r := []) gx97_120 rfl (show zmt[105]? = some zM105 from rfl) rfl rfl rfl rfl (c_105 S hq0 pr3) (kqN (fun h_3 P3 => ?_)))
    have S3 := P3.1
    have H := H h_3 P3
    show Pt _ _ _ 123 _ [] _ _
    exact pt_d (pt_vret gx97_123 ⟨rfl, H⟩)
  · have H := H.2 e2
    refine pt_d (pt_1 (fun n d => r_aloadn gx97_97 rfl) ?_)
    obtain ⟨pr4, H⟩ := H
    refine pt_d (pt_getK (B := 9) gx97_98 S (pr4) ?_)
    refine pt_d (pt_1 (fun n d => r_iloadn gx97_101 rfl) ?_)
    refine pt_d (pt_1 (fun n d => r_aloadn gx97_102 rfl) ?_)
    refine pt_d (pt_1 (fun n d => r_iloadn gx97_103 rfl) ?_)
    obtain ⟨pr5, H⟩ := H
    refine pt_d (pt_virt (as := [.int x3]) (r := [.int x3, .ref (q0 + 4)]) gx97_104 rfl (show zmt[103]? = some zM103 from rfl) rfl rfl rfl rfl (c_103 S z3 pr5) (kqI (fun v5 y5 h_5 h5 P5 => ?_)))
    have S5 := P5.1
    have H := H y5 h_5 P5
    show Pt _ _ _ 107 _ [.int v5, .int x3, .ref (q0 + 4)] _ _
    refine pt_d (pt_iastDk gx97_107 S5 z3 h5 (fun h_6 S6 p6 e6 K6 => ?_))
    have H := H p6
    refine pt_d (pt_1 (fun n d => r_aloadn gx97_108 rfl) ?_)
    refine pt_d (pt_1 (fun n d => r_iloadn gx97_109 rfl) ?_)
    have H := H h_6 S6 (by rw [e6]) K6
    obtain ⟨pr7, H⟩ := H
    refine pt_d (pt_virt (as := [.int x3]) (r := []) gx97_110 rfl (show zmt[104]? = some zM104 from rfl) rfl rfl rfl rfl (c_104 S6 z3 hq0 pr7) (kqN (fun h_7 P7 => ?_)))
    have S7 := P7.1
    have H := H h_7 P7
    show Pt _ _ _ 113 _ [] _ _
    refine pt_d (pt_iinc (c := 1) gx97_113 rfl z3 (fun v8 h8 => ?_))
    show Pt _ _ _ _ [some (.ref q0), some (.int x1), some (.int x2), some (.int v8)] [] _ _
    refine pt_d (pt_1 (fun n d => r_goto gx97_116) ?_)
    exact H v8 h8
-- the places that count, numbered
noncomputable def cnN (V : vS) (y k : Int) : Nat → Nat
  | 0 => 0
  | p + 1 => cnN V y k p + (if prB (cnt V (p : Nat) y k) then 1 else 0)
theorem cnN_t {V : vS} {y k : Int} {p : Nat} (h : cnt V (p : Nat) y k) : cnN V y k (p + 1) = cnN V y k p + 1 := by
  have e : cnN V y k (p + 1) = cnN V y k p + (if prB (cnt V (p : Nat) y k) then 1 else 0) := rfl
  rw [e, if_pos (prB_t.mpr h)]
theorem cnN_f {V : vS} {y k : Int} {p : Nat} (h : ¬ cnt V (p : Nat) y k) : cnN V y k (p + 1) = cnN V y k p := by
  have e : cnN V y k (p + 1) = cnN V y k p + (if prB (cnt V (p : Nat) y k) then 1 else 0) := rfl
  rw [e, if_neg (fun z => h (prB_t.mp z))]
  rfl
theorem cnN_le (V : vS) (y k : Int) : ∀ p : Nat, cnN V y k p ≤ p
  | 0 => Nat.le_refl _
  | p + 1 => by
    have := cnN_le V y k p
    by_cases z : cnt V (p : Nat) y k
    · rw [cnN_t z]; omega
    · rw [cnN_f z]; omega
theorem cnN_mono (V : vS) (y k : Int) {p p' : Nat} (h : p ≤ p') : cnN V y k p ≤ cnN V y k p' := by
  obtain ⟨d, rfl⟩ := Nat.le.dest h
  induction d with
  | zero => exact Nat.le_refl _
  | succ d ih =>
    have ih := ih (by omega)
    by_cases z : cnt V ((p + d : Nat) : Int) y k
    · have := cnN_t z
      rw [show p + (d + 1) = p + d + 1 from rfl, this]; omega
    · have := cnN_f z
      rw [show p + (d + 1) = p + d + 1 from rfl, this]; exact ih
theorem cnN_inv (V : vS) (y k : Int) : ∀ (P i : Nat), i < cnN V y k P → ∃ p : Nat, p < P ∧ cnt V (p : Nat) y k ∧ cnN V y k p = i
  | 0, i, h => by
    have e : cnN V y k 0 = 0 := rfl
    rw [e] at h
    omega
  | P + 1, i, h => by
    by_cases z : cnt V (P : Nat) y k
    · rw [cnN_t z] at h
      by_cases w : i = cnN V y k P
      · exact ⟨P, by omega, z, w.symm⟩
      · obtain ⟨p, h1, h2⟩ := cnN_inv V y k P i (by omega)
        exact ⟨p, by omega, h2⟩
    · rw [cnN_f z] at h
      obtain ⟨p, h1, h2⟩ := cnN_inv V y k P i h
      exact ⟨p, by omega, h2⟩
theorem cnt_c {V V' : vS} (h : ∀ (c : Nat) j, (c = 5 ∨ c = 8 ∨ 16 ≤ c ∧ c ≤ 31 ∧ c ≠ 19 ∧ c ≠ 22) → V' c j = V c j) (j y k : Int) : cnt V' j y k ↔ cnt V j y k := by
  unfold cnt wsM bhd
  rw [h 21 j (by decide), h 21 (j + 1) (by decide), h 20 _ (by decide), h 20 _ (by decide), h 5 _ (by decide), h 18 _ (by decide), h 18 _ (by decide), h 17 _ (by decide), h 17 _ (by decide), h 16 1 (by decide)]
theorem cnN_c {V V' : vS} (h : ∀ (c : Nat) j, (c = 5 ∨ c = 8 ∨ 16 ≤ c ∧ c ≤ 31 ∧ c ≠ 19 ∧ c ≠ 22) → V' c j = V c j) (y k : Int) : ∀ p, cnN V' y k p = cnN V y k p
  | 0 => rfl
  | p + 1 => by
    have e : ∀ V : vS, cnN V y k (p + 1) = cnN V y k p + (if prB (cnt V (p : Nat) y k) then 1 else 0) := fun _ => rfl
    rw [e, e, cnN_c h y k p, prB_c (cnt_c h (p : Nat) y k)]
-- the squares of a row that count, of one on the list
noncomputable def szF (V : vS) (q : Nat) (i : Int) (y : Int) : Int := bcn (fun x => (Bt V (q + 1) y i x && !(prB (fltB V (q + 1) y (V q 5) x) || tb (oRw V y (V q 2) (V q 3) (V 16 2).toNat) x)) && !(prB (lsB V (q + 1) y i x))) 32
noncomputable def szS (V : vS) (q : Nat) (i : Int) : Nat → Int
  | 0 => 0
  | y + 1 => szS V q i y + szF V q i (y : Nat)
theorem szS_b (V : vS) (q : Nat) (i : Int) : ∀ y : Nat, 0 ≤ szS V q i y ∧ szS V q i y ≤ 32 * (y : Int)
  | 0 => ⟨Int.le_refl _, Int.le_refl _⟩
  | y + 1 => by
    have ih := szS_b V q i y
    have b : 0 ≤ szF V q i (y : Nat) ∧ szF V q i (y : Nat) ≤ 32 := bcn_b _ 32
    have e : szS V q i (y + 1) = szS V q i y + szF V q i (y : Nat) := rfl
    rw [e]
    omega
def agr (q : Nat) (V V' : vS) : Prop := ∀ (c : Nat) j, c ≠ q + 2 → c ≠ q + 4 → V' c j = V c j
theorem fmA_c {V V' : vS} {r6 : Nat} {i : Int} (h17 : ∀ j, V' 17 j = V 17 j) (h6 : ∀ j, V' r6 j = V r6 j) : fmA V' r6 i = fmA V r6 i := by unfold fmA; rw [h6, h17]
theorem Bt_c {V V' : vS} {r6 : Nat} {y i : Int} {x : Nat} (h8 : ∀ j, V' 8 j = V 8 j) (h18 : ∀ j, V' 18 j = V 18 j) (h6 : ∀ j, V' r6 j = V r6 j) : Bt V' r6 y i x = Bt V r6 y i x := by unfold Bt fdA; rw [h6, h18, h8]
theorem lsB_c {V V' : vS} {r6 : Nat} {y i : Int} {x : Nat} (h8 : ∀ j, V' 8 j = V 8 j) (h17 : ∀ j, V' 17 j = V 17 j) (h18 : ∀ j, V' 18 j = V 18 j) (h6 : ∀ j, V' r6 j = V r6 j) : lsB V' r6 y i x ↔ lsB V r6 y i x := by
  unfold lsB
  simp only [fmA_c h17 h6, Bt_c h8 h18 h6]
theorem fltB_c {V V' : vS} {r6 : Nat} {y N : Int} {x : Nat} (h8 : ∀ j, V' 8 j = V 8 j) (h17 : ∀ j, V' 17 j = V 17 j) (h18 : ∀ j, V' 18 j = V 18 j) (h6 : ∀ j, V' r6 j = V r6 j) : fltB V' r6 y N x ↔ fltB V r6 y N x := by
  unfold fltB
  simp only [fmA_c h17 h6, Bt_c h8 h18 h6]
theorem oRw_c {V V' : vS} (h : ∀ (c : Nat) j, (c = 5 ∨ c = 8 ∨ 16 ≤ c ∧ c ≤ 31 ∧ c ≠ 19 ∧ c ≠ 22) → V' c j = V c j) (y yr k : Int) : ∀ i, oRw V' y yr k i = oRw V y yr k i
  | 0 => rfl
  | i + 1 => by
    have eh : oHit V' y yr k (i : Nat) ↔ oHit V y yr k (i : Nat) := by
      unfold oHit
      rw [h 26 _ (by decide), h 25 _ (by decide), h 23 _ (by decide), h 24 _ (by decide)]
    by_cases z : oHit V y yr k (i : Nat)
    · rw [oRw_t z, oRw_t (eh.mpr z), oRw_c h y yr k i, h 24 _ (by decide), h 23 _ (by decide)]
    · rw [oRw_f z, oRw_f (fun w => z (eh.mp w)), oRw_c h y yr k i]
theorem agr_s {q : Nat} {V V' : vS} (hq : 146 ≤ q) (A : agr q V V') : ∀ (c : Nat) j, c < 146 → V' c j = V c j := fun c j h => A c j (by omega) (by omega)
theorem szF_c {q : Nat} {V V' : vS} (hq : 146 ≤ q) (A : agr q V V') (i y : Int) : szF V' q i y = szF V q i y := by
  have s := agr_s hq A
  have h6 : ∀ j, V' (q + 1) j = V (q + 1) j := fun j => A _ j (by omega) (by omega)
  have hq' : ∀ j, V' q j = V q j := fun j => A _ j (by omega) (by omega)
  unfold szF
  rw [hq', hq', hq', s 16 2 (by decide), oRw_c (fun c j z => s c j (by omega))]
  refine bcn_c 32 (fun x _ => ?_)
  rw [Bt_c (fun j => s 8 j (by decide)) (fun j => s 18 j (by decide)) h6, prB_c (fltB_c (fun j => s 8 j (by decide)) (fun j => s 17 j (by decide)) (fun j => s 18 j (by decide)) h6), prB_c (lsB_c (fun j => s 8 j (by decide)) (fun j => s 17 j (by decide)) (fun j => s 18 j (by decide)) h6)]
theorem szS_c {q : Nat} {V V' : vS} (hq : 146 ≤ q) (A : agr q V V') (i : Int) : ∀ y, szS V' q i y = szS V q i y
  | 0 => rfl
  | y + 1 => by
    have e : ∀ V : vS, szS V q i (y + 1) = szS V q i y + szF V q i (y : Nat) := fun _ => rfl
    rw [e, e, szS_c hq A i y, szF_c hq A]
-- the rows
def rwI (V : vS) (q : Nat) (y : Int) (W : vS) : Prop := agr q V W ∧ (∀ i, 0 ≤ i → i < V q 5 → W (q + 2) i = szS V q i y.toNat) ∧ (∀ i, V q 5 ≤ i → i < 300 → W (q + 2) i = 0) ∧ ∀ y', 0 ≤ y' → y' < y → ∀ x, x < 32 → (tb (W (q + 4) y') x = true ↔ fltB V (q + 1) y' (V q 5) x)
def pre91 (h : aH) (q : Nat) : Prop := pre105 h q ∧ (∀ j, 0 ≤ vw h 8 j ∧ vw h 8 j < 2147483648) ∧ 0 ≤ vw h 16 2 ∧ vw h 16 2 ≤ 40
theorem sfl_c {V V' : vS} {q : Nat} (F : sfl V q) (h : ∀ j, V' q j = V q j) : sfl V' q := by
  unfold sfl at F ⊢
  simp only [h]
  exact F
theorem l_97b {X : aX} {q0 : Nat} {hb : aH} (hq0 : 146 ≤ q0) (H : pre91 hb q0) {Q : aH → Prop} : ∀ (n : Nat) (h : aH) (x1 x2 x3 : Int32) (y : Int), (∀ W, rwI (vw hb) q0 24 W → ∀ h' : aH, wS h' ∧ hk hb h' ∧ vw h' = suF W q0 → Q h') → wS h → hk hb h → x3.toInt = y → 0 ≤ y → y ≤ 24 → rwI (vw hb) q0 y (vw h) → Pt n X zM97 91 [some (.ref q0), some (.int x1), some (.int x2), some (.int x3)] [] h (qN Q) := by
  obtain ⟨⟨L, F, ⟨y10, y11, y12⟩, hc⟩, h8, h2⟩ := H
  intro n
  induction n with
  | zero => exact fun _ _ _ _ _ _ _ _ _ _ _ _ => pt_z
  | succ n ih =>
    intro h x1 x2 x3 y fin S K h3 y0 y1 R
    obtain ⟨A, r1, r2, r3⟩ := R
    have R' : rwI (vw hb) q0 y (vw h) := ⟨A, r1, r2, r3⟩
    have s := agr_s hq0 A
    have a6 : ∀ j, vw h (q0 + 1) j = vw hb (q0 + 1) j := fun j => A _ j (by omega) (by omega)
    have aq : ∀ j, vw h q0 j = vw hb q0 j := fun j => A _ j (by omega) (by omega)
    have L' : lst (vw h) q0 := lst_c L aq a6 (fun j => s 17 j (by decide)) (fun j => s 18 j (by decide))
    have F' := sfl_c F aq
    have e24 : 24 ≤ y → y = 24 := fun z => by omega
    refine d97_91 S rfl rfl h3 hq0 ⟨fun ge => ⟨⟨L', F', ⟨hk_a K y10, hk_a K y11, hk_a K y12⟩, by rw [s 16 3 (by decide)]; exact hc⟩, fun h' k => fin (vw h) (by rw [← e24 ge]; exact R') h' ⟨k.1, hk_t K k.2.1, k.2.2⟩⟩, fun lt => ⟨F'.2.2.1, ⟨L', y0, lt⟩, fun y5 h5 k5 _ h6 S6 e6 K6 => ?_⟩⟩
    obtain ⟨-, rfl, b5⟩ := k5
    have q6 : ∀ (c : Nat) j, c ≠ q0 + 4 → vw h6 c j = vw h5 c j := fun c j a => by rw [e6, up_c a]
    have A6 : agr q0 (vw hb) (vw h6) := fun c j c1 c2 => (q6 c j c2).trans (A c j c1 c2)
    have s6 := agr_s hq0 A6
    have g6 : ∀ j, vw h6 (q0 + 1) j = vw hb (q0 + 1) j := fun j => A6 _ j (by omega) (by omega)
    have gq : ∀ j, vw h6 q0 j = vw hb q0 j := fun j => A6 _ j (by omega) (by omega)
    have L6 : lst (vw h6) q0 := lst_c L gq g6 (fun j => s6 17 j (by decide)) (fun j => s6 18 j (by decide))
    have z6 : ∀ j, vw h6 (q0 + 2) j = vw h5 (q0 + 2) j := fun j => q6 _ j (by omega)
    refine ⟨⟨⟨L6, (gq 7).trans F.1, fun j => by rw [s6 8 j (by decide)]; exact h8 j, fun j j0 j1 => ?_⟩, ⟨y0, lt⟩, (gq 9).trans F.2.2.1, by rw [s6 16 2 (by decide)]; exact h2⟩, fun h7 k7 w3 g3 => ?_⟩
    · rw [z6]
      by_cases w : j < vw hb q0 5
      · rw [r1 j j0 w]
        have := szS_b (vw hb) q0 j y.toNat
        omega
      · rw [r2 j (by omega) j1]
        decide
    · replace g3 := w_1 g3 (by omega) (by omega)
      have e7 := k7.2.2
      refine ih h7 x1 x2 w3 (y + 1) fin k7.1 (hk_t K (hk_t K6 k7.2.1)) g3 (by omega) (by omega) ⟨fun c j c1 c2 => ?_, fun i i0 i1 => ?_, fun i i0 i1 => ?_, fun y' y0' y1' x hx => ?_⟩
      · rw [e7, szV_c c1]
        exact A6 c j c1 c2
      · have ey : (y + 1).toNat = y.toNat + 1 := by omega
        have es : szS (vw hb) q0 i (y.toNat + 1) = szS (vw hb) q0 i y.toNat + szF (vw hb) q0 i (y.toNat : Nat) := rfl
        rw [ey, es, show ((y.toNat : Nat) : Int) = y by omega, e7]
        have e1 : szV (vw h6) (q0 + 1) (q0 + 2) y (barA (vw h6) q0 y) (vw h6 q0 5) (q0 + 2) i = vw h6 (q0 + 2) i + szR (vw h6) (q0 + 1) y (barA (vw h6) q0 y) i := if_pos ⟨rfl, i0, by rw [gq]; exact i1⟩
        rw [e1, z6, r1 i i0 i1]
        congr 1
        unfold szR szF
        refine bcn_c 32 (fun x hx => ?_)
        have eb : tb (barA (vw h6) q0 y) x = (prB (fltB (vw hb) (q0 + 1) y (vw hb q0 5) x) || tb (oRw (vw hb) y (vw hb q0 2) (vw hb q0 3) (vw hb 16 2).toNat) x) := by
          unfold barA
          rw [tb_or, gq, gq, s6 16 2 (by decide), oRw_c (fun c j z => s6 c j (by omega)), e6, up_s]
          congr 1
          rw [Bool.eq_iff_iff, b5 x hx, prB_t, aq]
          exact fltB_c (fun j => s 8 j (by decide)) (fun j => s 17 j (by decide)) (fun j => s 18 j (by decide)) a6
        rw [eb, Bt_c (fun j => s6 8 j (by decide)) (fun j => s6 18 j (by decide)) g6, prB_c (lsB_c (fun j => s6 8 j (by decide)) (fun j => s6 17 j (by decide)) (fun j => s6 18 j (by decide)) g6)]
      · rw [e7]
        have e1 : szV (vw h6) (q0 + 1) (q0 + 2) y (barA (vw h6) q0 y) (vw h6 q0 5) (q0 + 2) i = vw h6 (q0 + 2) i := if_neg (fun z => by rw [gq] at z; omega)
        rw [e1, z6]
        exact r2 i i0 i1
      · rw [e7, szV_c (by omega), e6]
        by_cases w : y' = y
        · subst w
          rw [up_s, b5 x hx, aq]
          exact fltB_c (fun j => s 8 j (by decide)) (fun j => s 17 j (by decide)) (fun j => s 18 j (by decide)) a6
        · rw [up_j w]
          exact r3 y' y0' (by omega) x hx
end
section
-- ===== seasons: summed up and built =====
def liI (V : vS) (q : Nat) (p : Nat) (W : vS) : Prop := (∀ (c : Nat) j, c ≠ q → c ≠ q + 1 → W c j = V c j) ∧ (∀ j, j ≠ 5 → W q j = V q j) ∧ W q 5 = ((cnN V (V q 2) (V q 3) p : Nat) : Int) ∧ ∀ p' : Nat, p' < p → cnt V (p' : Nat) (V q 2) (V q 3) → W (q + 1) ((cnN V (V q 2) (V q 3) p' : Nat) : Int) = V 21 (p' : Nat)
def pre97 (h : aH) (q : Nat) : Prop := (vw h q 0 = ((1 : Nat) : Int) ∧ vw h q 1 = ((16 : Nat) : Int) ∧ vw h q 6 = ((q + 1 : Nat) : Int) ∧ sfl (vw h) q) ∧ ((∃ t y, h.1[q + 2]? = some (.inl (t, 300, y))) ∧ (∃ t y, h.1[q + 5]? = some (.inl (t, 150, y))) ∧ (∃ t y, h.1[q + 6]? = some (.inl (t, 150, y))) ∧ (∃ t y, h.1[q + 7]? = some (.inl (t, 150, y)))) ∧ (0 ≤ vw h 16 1 ∧ vw h 16 1 ≤ 300) ∧ (∀ p, 0 ≤ p → p < vw h 16 1 → 0 ≤ vw h 18 (vw h 21 p) ∧ vw h 18 (vw h 21 p) < 150) ∧ (∀ p p', 0 ≤ p → p ≤ p' → p' < vw h 16 1 → vw h 17 (vw h 21 p) ≤ vw h 17 (vw h 21 p')) ∧ (∀ j, 0 ≤ vw h 8 j ∧ vw h 8 j < 2147483648) ∧ (0 ≤ vw h 16 2 ∧ vw h 16 2 ≤ 40) ∧ 0 ≤ vw h 16 3 ∧ vw h 16 3 ≤ 200
theorem liI_l {h : aH} {q : Nat} {W : vS} (hq : 146 ≤ q) (H : pre97 h q) (I : liI (vw h) q (vw h 16 1).toNat W) : lst W q := by
  obtain ⟨⟨f0, f1, f6, F⟩, -, hn, hf, hs, -⟩ := H
  obtain ⟨c, d, e, l⟩ := I
  have le := cnN_le (vw h) (vw h q 2) (vw h q 3) (vw h 16 1).toNat
  have el : ∀ i : Int, 0 ≤ i → i < W q 5 → ∃ p : Nat, (p : Int) < vw h 16 1 ∧ cnt (vw h) (p : Nat) (vw h q 2) (vw h q 3) ∧ ((cnN (vw h) (vw h q 2) (vw h q 3) p : Nat) : Int) = i ∧ W (q + 1) i = vw h 21 (p : Nat) := by
    intro i i0 i1
    obtain ⟨p, p1, p2, p3⟩ := cnN_inv (vw h) (vw h q 2) (vw h q 3) (vw h 16 1).toNat i.toNat (by omega)
    have z := l p p1 p2
    have e : ((cnN (vw h) (vw h q 2) (vw h q 3) p : Nat) : Int) = i := by omega
    rw [e] at z
    exact ⟨p, by omega, p2, e, z⟩
  refine ⟨⟨(d 0 (by decide)).trans f0, (d 1 (by decide)).trans f1, (d 6 (by decide)).trans f6⟩, ⟨by omega, by omega⟩, fun i i0 i1 => ?_, fun i j i0 ij j1 => ?_⟩
  · obtain ⟨p, p1, -, -, z⟩ := el i i0 i1
    unfold fdA
    rw [z, c 18 _ (by omega) (by omega)]
    exact hf p (by omega) p1
  · obtain ⟨p, p1, p2, p3, z⟩ := el i i0 (by omega)
    obtain ⟨p', p1', p2', p3', z'⟩ := el j (by omega) j1
    unfold fmA
    rw [z, z', c 17 _ (by omega) (by omega), c 17 _ (by omega) (by omega)]
    refine hs p p' (by omega) ?_ p1'
    rcases Nat.lt_or_ge p' p with w | w
    · have m := cnN_mono (vw h) (vw h q 2) (vw h q 3) (show p' + 1 ≤ p by omega)
      rw [cnN_t p2'] at m
      omega
    · omega
theorem l_97a {X : aX} {q0 : Nat} {hb : aH} (hq0 : 146 ≤ q0) (H : pre97 hb q0) {Q : aH → Prop} (fin : ∀ W2 W, liI (vw hb) q0 (vw hb 16 1).toNat W2 → rwI (fillV W2 (q0 + 2) 0 300 0) q0 24 W → ∀ h' : aH, wS h' ∧ hk hb h' ∧ vw h' = suF W q0 → Q h') : ∀ (n : Nat) (h : aH) (x1 x2 x3 : Int32) (p : Nat), wS h → hk hb h → x3.toInt = (p : Int) → (p : Int) ≤ vw hb 16 1 → liI (vw hb) q0 p (vw h) → Pt n X zM97 17 [some (.ref q0), some (.int x1), some (.int x2), some (.int x3)] [] h (qN Q) := by
  have H' := H
  obtain ⟨⟨f0, f1, f6, F⟩, ⟨y7, y10, y11, y12⟩, hn, hf, hs, h8, h2, hc⟩ := H
  intro n
  induction n with
  | zero => exact fun _ _ _ _ _ _ _ _ _ _ => pt_z
  | succ n ih =>
    intro h x1 x2 x3 p S K h3 pN I
    have I' := I
    obtain ⟨c, d, e, l⟩ := I
    have st : ∀ (c' : Nat) j, c' < 146 → vw h c' j = vw hb c' j := fun c' j z => c c' j (by omega) (by omega)
    have e16 : vw h 16 1 = vw hb 16 1 := st 16 1 (by decide)
    have g1 : vw h q0 1 = ((16 : Nat) : Int) := (d 1 (by decide)).trans f1
    have cc : ∀ j, cnt (vw h) j (vw h q0 2) (vw h q0 3) ↔ cnt (vw hb) j (vw hb q0 2) (vw hb q0 3) := fun j => by
      rw [d 2 (by decide), d 3 (by decide)]
      exact cnt_c (fun c j z => st c j (by omega)) j _ _
    refine d97_17 S rfl rfl h3 hq0 ⟨g1, fun ge => ⟨(d 7 (by decide)).trans F.1, ⟨hk_a K y7, by decide⟩, fun h6 k6 w3 g3 => ?_⟩, fun lt => ⟨g1, fun no w3 g3 => ?_, fun yes => ⟨(d 6 (by decide)).trans f6, g1, fun _ _ _ g S2 eg K2 w3 g3 => ?_⟩⟩⟩
    · have ep : p = (vw hb 16 1).toNat := by omega
      rw [ep] at I'
      have L := liI_l hq0 H' I'
      have e6 := k6.2.2
      have q6 : ∀ (c : Nat) j, c ≠ q0 + 2 → vw h6 c j = vw h c j := fun c j a => by rw [e6, fillV_c a]
      have s6 : ∀ (c' : Nat) j, c' < 146 → vw h6 c' j = vw hb c' j := fun c' j z => (q6 c' j (by omega)).trans (st c' j z)
      have gq : ∀ j, vw h6 q0 j = vw h q0 j := fun j => q6 q0 j (by omega)
      have L6 : lst (vw h6) q0 := lst_c L gq (fun j => q6 _ j (by omega)) (fun j => q6 _ j (by omega)) (fun j => q6 _ j (by omega))
      have K6 := hk_t K k6.2.1
      have F6 : sfl (vw h6) q0 := by
        obtain ⟨k7, k8, k9, k10, k11, k12⟩ := F
        exact ⟨(gq 7).trans ((d 7 (by decide)).trans k7), (gq 8).trans ((d 8 (by decide)).trans k8), (gq 9).trans ((d 9 (by decide)).trans k9), (gq 10).trans ((d 10 (by decide)).trans k10), (gq 11).trans ((d 11 (by decide)).trans k11), (gq 12).trans ((d 12 (by decide)).trans k12)⟩
      refine l_97b (hb := h6) hq0 ⟨⟨L6, F6, ⟨hk_a K6 y10, hk_a K6 y11, hk_a K6 y12⟩, by rw [s6 16 3 (by decide)]; exact hc⟩, fun j => by rw [s6 8 j (by decide)]; exact h8 j, by rw [s6 16 2 (by decide)]; exact h2⟩ n h6 x1 x2 w3 0 (fun W R h' k => fin (vw h) W I' (by rw [← e6]; exact R) h' ⟨k.1, hk_t K6 k.2.1, k.2.2⟩) k6.1 (hk_r h6) g3 (Int.le_refl _) (by decide) ⟨fun _ _ _ _ => rfl, fun i i0 i1 => ?_, fun i i0 i1 => ?_, fun y' a b => by omega⟩
      · rw [e6, fillV_i ⟨i0, by have := L6.2.1.2; omega⟩]
        rfl
      · have := L6.2.1.1
        rw [e6, fillV_i ⟨by omega, i1⟩]
    · replace g3 := w_1 g3 (by omega) (by omega)
      have no := fun z => no ((cc _).mpr z)
      refine ih h x1 x2 w3 (p + 1) S K (by omega) (by omega) ⟨c, d, by rw [cnN_f no]; exact e, fun p' h1 h2 => ?_⟩
      by_cases w : p' = p
      · subst w
        exact absurd h2 no
      · exact l p' (by omega) h2
    · replace g3 := w_1 g3 (by omega) (by omega)
      have yes := (cc _).mp yes
      have le := cnN_le (vw hb) (vw hb q0 2) (vw hb q0 3) p
      rw [up_c (show q0 ≠ q0 + 1 by omega), w32_id (by omega) (by omega)] at eg
      refine ih g x1 x2 w3 (p + 1) S2 (hk_t K K2) (by omega) (by omega) ⟨fun c' j n1 n2 => ?_, fun j n1 => ?_, ?_, fun p' h1 h2 => ?_⟩
      · rw [eg, up_c n1, up_c n2]
        exact c c' j n1 n2
      · rw [eg, up_j n1, up_c (show q0 ≠ q0 + 1 by omega)]
        exact d j n1
      · rw [eg, up_s, cnN_t yes, e]
        omega
      · rw [eg, up_c (show q0 + 1 ≠ q0 by omega), e]
        by_cases w : p' = p
        · subst w
          rw [up_s]
          exact st 21 _ (by decide)
        · have m := cnN_mono (vw hb) (vw hb q0 2) (vw hb q0 3) (show p' + 1 ≤ p by omega)
          rw [cnN_t h2] at m
          rw [up_j (by omega)]
          exact l p' (by omega) h2
def R97 (V : vS) (q : Nat) (k st : Int) (V' : vS) : Prop := ∃ W : vS, V' = suF W q ∧ (∀ (c : Nat) j, c ≠ q → c ≠ q + 1 → c ≠ q + 2 → c ≠ q + 4 → W c j = V c j) ∧ (W q 3 = k ∧ W q 4 = st ∧ ∀ j, j ≠ 3 → j ≠ 4 → j ≠ 5 → W q j = V q j) ∧ W q 5 = ((cnN V (V q 2) k (V 16 1).toNat : Nat) : Int) ∧ (∀ p : Nat, (p : Int) < V 16 1 → cnt V (p : Nat) (V q 2) k → W (q + 1) ((cnN V (V q 2) k p : Nat) : Int) = V 21 (p : Nat)) ∧ lst W q ∧ (∀ i, 0 ≤ i → i < W q 5 → W (q + 2) i = szS W q i 24) ∧ ∀ y, 0 ≤ y → y < 24 → ∀ x, x < 32 → (tb (W (q + 4) y) x = true ↔ fltB W (q + 1) y (W q 5) x)
theorem c_97 {n : Nat} {X : aX} {h : aH} {x1 x2 : Int32} {a1 a2 : Int} {q0 : Nat} (S : wS h) (z1 : x1.toInt = a1) (z2 : x2.toInt = a2) (hq0 : 146 ≤ q0) (hp : pre97 h q0) : Pt n X zM97 0 [some (.ref q0), some (.int x1), some (.int x2), none] [] h (qN (fun h' => wS h' ∧ hk h h' ∧ R97 (vw h) q0 a1 a2 (vw h'))) := by
  refine pt_d (d97_0 S z1 z2 hq0 (fun h4 S4 e4 K4 w3 g3 => ?_))
  have c : ∀ (c : Nat) j, c ≠ q0 → vw h4 c j = vw h c j := fun c j a => by rw [e4, up_c a, up_c a, up_c a]
  have d : ∀ j, j ≠ 3 → j ≠ 4 → j ≠ 5 → vw h4 q0 j = vw h q0 j := fun j a b e => by rw [e4, up_j e, up_j b, up_j a]
  have s3 : vw h4 q0 3 = a1 := by rw [e4, up_j (by decide), up_j (by decide), up_s]
  have s4 : vw h4 q0 4 = a2 := by rw [e4, up_j (by decide), up_s]
  have s5 : vw h4 q0 5 = 0 := by rw [e4, up_s]
  have s2 : vw h4 q0 2 = vw h q0 2 := d 2 (by decide) (by decide) (by decide)
  have st : ∀ (c' : Nat) j, c' < 146 → vw h4 c' j = vw h c' j := fun c' j z => c c' j (by omega)
  obtain ⟨⟨f0, f1, f6, F⟩, ⟨y7, y10, y11, y12⟩, hn, hf, hs, h8, h2, hc⟩ := hp
  have H4 : pre97 h4 q0 := by
    obtain ⟨k7, k8, k9, k10, k11, k12⟩ := F
    have dd : ∀ j, 5 < j → vw h4 q0 j = vw h q0 j := fun j z => d j (by omega) (by omega) (by omega)
    refine ⟨⟨(d 0 (by decide) (by decide) (by decide)).trans f0, (d 1 (by decide) (by decide) (by decide)).trans f1, (dd 6 (by decide)).trans f6, (dd 7 (by decide)).trans k7, (dd 8 (by decide)).trans k8, (dd 9 (by decide)).trans k9, (dd 10 (by decide)).trans k10, (dd 11 (by decide)).trans k11, (dd 12 (by decide)).trans k12⟩, ⟨hk_a K4 y7, hk_a K4 y10, hk_a K4 y11, hk_a K4 y12⟩, by rw [st 16 1 (by decide)]; exact hn, fun p p0 p1 => ?_, fun p p' p0 p1 p2 => ?_, fun j => by rw [st 8 j (by decide)]; exact h8 j, by rw [st 16 2 (by decide)]; exact h2, by rw [st 16 3 (by decide)]; exact hc⟩
    · rw [st 16 1 (by decide)] at p1
      rw [st 21 _ (by decide), st 18 _ (by decide)]
      exact hf p p0 p1
    · rw [st 16 1 (by decide)] at p2
      rw [st 21 _ (by decide), st 21 _ (by decide), st 17 _ (by decide), st 17 _ (by decide)]
      exact hs p p' p0 p1 p2
  refine l_97a (hb := h4) hq0 H4 (fun W2 W I R h' k => ⟨k.1, hk_t K4 k.2.1, W, k.2.2, ?_⟩) n h4 x1 x2 w3 0 S4 (hk_r h4) g3 (by rw [st 16 1 (by decide)]; exact hn.1) ⟨fun _ _ _ _ => rfl, fun _ _ => rfl, s5, fun p' z => by omega⟩
  have L2 := liI_l hq0 H4 I
  obtain ⟨i1, i2, i3, i4⟩ := I
  obtain ⟨A, r1, r2, r3⟩ := R
  have b : ∀ (c : Nat) j, c ≠ q0 + 2 → c ≠ q0 + 4 → W c j = W2 c j := fun c j z1 z2 => by rw [A c j z1 z2, fillV_c z1]
  have bq : ∀ j, W q0 j = W2 q0 j := fun j => b q0 j (by omega) (by omega)
  have b5 : fillV W2 (q0 + 2) 0 300 0 q0 5 = W q0 5 := by rw [fillV_c (by omega), bq]
  have n5 : W q0 5 = ((cnN (vw h) (vw h q0 2) a1 (vw h 16 1).toNat : Nat) : Int) := by
    rw [bq, i3, s2, s3, st 16 1 (by decide), cnN_c (fun c j z => st c j (by omega))]
  have LW : lst W q0 := lst_c L2 bq (fun j => b _ j (by omega) (by omega)) (fun j => b _ j (by omega) (by omega)) (fun j => b _ j (by omega) (by omega))
  refine ⟨fun c' j n1 n2 n3 n4 => by rw [b c' j n3 n4, i1 c' j n1 n2, c c' j n1], ⟨by rw [bq, i2 3 (by decide), s3], by rw [bq, i2 4 (by decide), s4], fun j n1 n2 n3 => by rw [bq, i2 j n3, d j n1 n2 n3]⟩, n5, fun p p1 p2 => ?_, LW, fun i i0 i1' => ?_, fun y y0 y1 x hx => ?_⟩
  · have z := i4 p (by rw [st 16 1 (by decide)]; omega) (by rw [s2, s3]; exact (cnt_c (fun c j z => st c j (by omega)) _ _ _).mpr p2)
    rw [s2, s3, cnN_c (fun c j z => st c j (by omega)), st 21 _ (by decide)] at z
    rw [b _ _ (by omega) (by omega)]
    exact z
  · rw [r1 i i0 (by rw [b5]; exact i1')]
    exact (szS_c hq0 A i 24).symm
  · rw [r3 y y0 y1 x hx, b5]
    have s := agr_s hq0 A
    exact (fltB_c (fun j => s 8 j (by decide)) (fun j => s 17 j (by decide)) (fun j => s 18 j (by decide)) (fun j => A _ j (by omega) (by omega))).symm
end

-- ===== bits counted =====
theorem gx329_0 : aF 0 zM329.2.2.2.2.2.2.2 = some (0, (.iload_n 0), 1, 0, 0) := by decide +kernel
theorem gx329_1 : aF 1 zM329.2.2.2.2.2.2.2 = some (1, (.iload_n 0), 1, 0, 0) := by decide +kernel
theorem gx329_2 : aF 2 zM329.2.2.2.2.2.2.2 = some (2, (.iconst 1), 1, 0, 0) := by decide +kernel
theorem gx329_3 : aF 3 zM329.2.2.2.2.2.2.2 = some (3, .iushr, 1, 0, 0) := by decide +kernel
theorem gx329_4 : aF 4 zM329.2.2.2.2.2.2.2 = some (4, (.ldc_w 265), 3, 1431655765, 0) := by decide +kernel
theorem gx329_7 : aF 7 zM329.2.2.2.2.2.2.2 = some (7, .iand, 1, 0, 0) := by decide +kernel
theorem gx329_8 : aF 8 zM329.2.2.2.2.2.2.2 = some (8, .isub, 1, 0, 0) := by decide +kernel
theorem gx329_9 : aF 9 zM329.2.2.2.2.2.2.2 = some (9, (.istore_n 0), 1, 0, 0) := by decide +kernel
theorem gx329_10 : aF 10 zM329.2.2.2.2.2.2.2 = some (10, (.iload_n 0), 1, 0, 0) := by decide +kernel
theorem gx329_11 : aF 11 zM329.2.2.2.2.2.2.2 = some (11, (.ldc_w 266), 3, 858993459, 0) := by decide +kernel
theorem gx329_14 : aF 14 zM329.2.2.2.2.2.2.2 = some (14, .iand, 1, 0, 0) := by decide +kernel
theorem gx329_15 : aF 15 zM329.2.2.2.2.2.2.2 = some (15, (.iload_n 0), 1, 0, 0) := by decide +kernel
theorem gx329_16 : aF 16 zM329.2.2.2.2.2.2.2 = some (16, (.iconst 2), 1, 0, 0) := by decide +kernel
theorem gx329_17 : aF 17 zM329.2.2.2.2.2.2.2 = some (17, .iushr, 1, 0, 0) := by decide +kernel
theorem gx329_18 : aF 18 zM329.2.2.2.2.2.2.2 = some (18, (.ldc_w 266), 3, 858993459, 0) := by decide +kernel
theorem gx329_21 : aF 21 zM329.2.2.2.2.2.2.2 = some (21, .iand, 1, 0, 0) := by decide +kernel
theorem gx329_22 : aF 22 zM329.2.2.2.2.2.2.2 = some (22, .iadd, 1, 0, 0) := by decide +kernel
theorem gx329_23 : aF 23 zM329.2.2.2.2.2.2.2 = some (23, (.istore_n 0), 1, 0, 0) := by decide +kernel
theorem gx329_24 : aF 24 zM329.2.2.2.2.2.2.2 = some (24, (.iload_n 0), 1, 0, 0) := by decide +kernel
theorem gx329_25 : aF 25 zM329.2.2.2.2.2.2.2 = some (25, (.iload_n 0), 1, 0, 0) := by decide +kernel
theorem gx329_26 : aF 26 zM329.2.2.2.2.2.2.2 = some (26, (.iconst 4), 1, 0, 0) := by decide +kernel
theorem gx329_27 : aF 27 zM329.2.2.2.2.2.2.2 = some (27, .iushr, 1, 0, 0) := by decide +kernel
theorem gx329_28 : aF 28 zM329.2.2.2.2.2.2.2 = some (28, .iadd, 1, 0, 0) := by decide +kernel
theorem gx329_29 : aF 29 zM329.2.2.2.2.2.2.2 = some (29, (.ldc_w 267), 3, 252645135, 0) := by decide +kernel
theorem gx329_32 : aF 32 zM329.2.2.2.2.2.2.2 = some (32, .iand, 1, 0, 0) := by decide +kernel
theorem gx329_33 : aF 33 zM329.2.2.2.2.2.2.2 = some (33, (.istore_n 0), 1, 0, 0) := by decide +kernel
theorem gx329_34 : aF 34 zM329.2.2.2.2.2.2.2 = some (34, (.iload_n 0), 1, 0, 0) := by decide +kernel
theorem gx329_35 : aF 35 zM329.2.2.2.2.2.2.2 = some (35, (.iload_n 0), 1, 0, 0) := by decide +kernel
theorem gx329_36 : aF 36 zM329.2.2.2.2.2.2.2 = some (36, (.bipush 8), 2, 0, 0) := by decide +kernel
theorem gx329_38 : aF 38 zM329.2.2.2.2.2.2.2 = some (38, .iushr, 1, 0, 0) := by decide +kernel
theorem gx329_39 : aF 39 zM329.2.2.2.2.2.2.2 = some (39, .iadd, 1, 0, 0) := by decide +kernel
theorem gx329_40 : aF 40 zM329.2.2.2.2.2.2.2 = some (40, (.istore_n 0), 1, 0, 0) := by decide +kernel
theorem gx329_41 : aF 41 zM329.2.2.2.2.2.2.2 = some (41, (.iload_n 0), 1, 0, 0) := by decide +kernel
theorem gx329_42 : aF 42 zM329.2.2.2.2.2.2.2 = some (42, (.iload_n 0), 1, 0, 0) := by decide +kernel
theorem gx329_43 : aF 43 zM329.2.2.2.2.2.2.2 = some (43, (.bipush 16), 2, 0, 0) := by decide +kernel
theorem gx329_45 : aF 45 zM329.2.2.2.2.2.2.2 = some (45, .iushr, 1, 0, 0) := by decide +kernel
theorem gx329_46 : aF 46 zM329.2.2.2.2.2.2.2 = some (46, .iadd, 1, 0, 0) := by decide +kernel
theorem gx329_47 : aF 47 zM329.2.2.2.2.2.2.2 = some (47, (.istore_n 0), 1, 0, 0) := by decide +kernel
theorem gx329_48 : aF 48 zM329.2.2.2.2.2.2.2 = some (48, (.iload_n 0), 1, 0, 0) := by decide +kernel
theorem gx329_49 : aF 49 zM329.2.2.2.2.2.2.2 = some (49, (.bipush 63), 2, 0, 0) := by decide +kernel
theorem gx329_51 : aF 51 zM329.2.2.2.2.2.2.2 = some (51, .iand, 1, 0, 0) := by decide +kernel
theorem gx329_52 : aF 52 zM329.2.2.2.2.2.2.2 = some (52, .ireturn, 1, 0, 0) := by decide +kernel
theorem d329_0 {n : Nat} {X : aX} {h : aH} {P : Int → aH → Prop} {x0 : Int32} {a0 : Int} (S : wS h) (z0 : x0.toInt = a0) (H : P (bAnd (w32 ((w32 ((bAnd (w32 ((w32 ((bAnd (w32 (a0 - (bAnd (bUshr a0 1) 1431655765))) 858993459) + (bAnd (bUshr (w32 (a0 - (bAnd (bUshr a0 1) 1431655765))) 2) 858993459))) + (bUshr (w32 ((bAnd (w32 (a0 - (bAnd (bUshr a0 1) 1431655765))) 858993459) + (bAnd (bUshr (w32 (a0 - (bAnd (bUshr a0 1) 1431655765))) 2) 858993459))) 4))) 252645135) + (bUshr (bAnd (w32 ((w32 ((bAnd (w32 (a0 - (bAnd (bUshr a0 1) 1431655765))) 858993459) + (bAnd (bUshr (w32 (a0 - (bAnd (bUshr a0 1) 1431655765))) 2) 858993459))) + (bUshr (w32 ((bAnd (w32 (a0 - (bAnd (bUshr a0 1) 1431655765))) 858993459) + (bAnd (bUshr (w32 (a0 - (bAnd (bUshr a0 1) 1431655765))) 2) 858993459))) 4))) 252645135) 8))) + (bUshr (w32 ((bAnd (w32 ((w32 ((bAnd (w32 (a0 - (bAnd (bUshr a0 1) 1431655765))) 858993459) + (bAnd (bUshr (w32 (a0 - (bAnd (bUshr a0 1) 1431655765))) 2) 858993459))) + (bUshr (w32 ((bAnd (w32 (a0 - (bAnd (bUshr a0 1) 1431655765))) 858993459) + (bAnd (bUshr (w32 (a0 - (bAnd (bUshr a0 1) 1431655765))) 2) 858993459))) 4))) 252645135) + (bUshr (bAnd (w32 ((w32 ((bAnd (w32 (a0 - (bAnd (bUshr a0 1) 1431655765))) 858993459) + (bAnd (bUshr (w32 (a0 - (bAnd (bUshr a0 1) 1431655765))) 2) 858993459))) + (bUshr (w32 ((bAnd (w32 (a0 - (bAnd (bUshr a0 1) 1431655765))) 858993459) + (bAnd (bUshr (w32 (a0 - (bAnd (bUshr a0 1) 1431655765))) 2) 858993459))) 4))) 252645135) 8))) 16))) 63) h) : Pt (n + 1) X zM329 0 [some (.int x0)] [] h (qI P) := by
  refine pt_1 (fun n d => r_iloadn gx329_0 rfl) ?_
  refine pt_d (pt_1 (fun n d => r_iloadn gx329_1 rfl) ?_)
  refine pt_d (pt_iconst gx329_2 (fun v1 h1 => ?_))
  refine pt_d (pt_iushr gx329_3 z0 h1 (fun v2 h2 => ?_))
  refine pt_d (pt_ldc_w (c := 1431655765) gx329_4 rfl (fun v3 h3 => ?_))
  refine pt_d (pt_iand gx329_7 h2 h3 (fun v4 h4 => ?_))
  refine pt_d (pt_isub gx329_8 z0 h4 (fun v5 h5 => ?_))
  refine pt_d (pt_1 (fun n d => r_istoren (L' := [some (.int v5)]) gx329_9 rfl rfl) ?_)
  refine pt_d (pt_1 (fun n d => r_iloadn gx329_10 rfl) ?_)
  refine pt_d (pt_ldc_w (c := 858993459) gx329_11 rfl (fun v6 h6 => ?_))
  refine pt_d (pt_iand gx329_14 h5 h6 (fun v7 h7 => ?_))
  refine pt_d (pt_1 (fun n d => r_iloadn gx329_15 rfl) ?_)
  refine pt_d (pt_iconst gx329_16 (fun v8 h8 => ?_))
  refine pt_d (pt_iushr gx329_17 h5 h8 (fun v9 h9 => ?_))
  refine pt_d (pt_ldc_w (c := 858993459) gx329_18 rfl (fun v10 h10 => ?_))
  refine pt_d (pt_iand gx329_21 h9 h10 (fun v11 h11 => ?_))
  refine pt_d (pt_iadd gx329_22 h7 h11 (fun v12 h12 => ?_))
  refine pt_d (pt_1 (fun n d => r_istoren (L' := [some (.int v12)]) gx329_23 rfl rfl) ?_)
  refine pt_d (pt_1 (fun n d => r_iloadn gx329_24 rfl) ?_)
  refine pt_d (pt_1 (fun n d => r_iloadn gx329_25 rfl) ?_)
  refine pt_d (pt_iconst gx329_26 (fun v13 h13 => ?_))
  refine pt_d (pt_iushr gx329_27 h12 h13 (fun v14 h14 => ?_))
  refine pt_d (pt_iadd gx329_28 h12 h14 (fun v15 h15 => ?_))
  refine pt_d (pt_ldc_w (c := 252645135) gx329_29 rfl (fun v16 h16 => ?_))
  refine pt_d (pt_iand gx329_32 h15 h16 (fun v17 h17 => ?_))
  refine pt_d (pt_1 (fun n d => r_istoren (L' := [some (.int v17)]) gx329_33 rfl rfl) ?_)
  refine pt_d (pt_1 (fun n d => r_iloadn gx329_34 rfl) ?_)
  refine pt_d (pt_1 (fun n d => r_iloadn gx329_35 rfl) ?_)
  refine pt_d (pt_bipush gx329_36 (fun v18 h18 => ?_))
  refine pt_d (pt_iushr gx329_38 h17 h18 (fun v19 h19 => ?_))
  refine pt_d (pt_iadd gx329_39 h17 h19 (fun v20 h20 => ?_))
  refine pt_d (pt_1 (fun n d => r_istoren (L' := [some (.int v20)]) gx329_40 rfl rfl) ?_)
  refine pt_d (pt_1 (fun n d => r_iloadn gx329_41 rfl) ?_)
  refine pt_d (pt_1 (fun n d => r_iloadn gx329_42 rfl) ?_)
  refine pt_d (pt_bipush gx329_43 (fun v21 h21 => ?_))
  refine pt_d (pt_iushr gx329_45 h20 h21 (fun v22 h22 => ?_))
  refine pt_d (pt_iadd gx329_46 h20 h22 (fun v23 h23 => ?_))
  refine pt_d (pt_1 (fun n d => r_istoren (L' := [some (.int v23)]) gx329_47 rfl rfl) ?_)
  refine pt_d (pt_1 (fun n d => r_iloadn gx329_48 rfl) ?_)
  refine pt_d (pt_bipush gx329_49 (fun v24 h24 => ?_))
  refine pt_d (pt_iand gx329_51 h23 h24 (fun v25 h25 => ?_))
  exact pt_d (pt_iret gx329_52 ⟨_, rfl, by rw [h25]; exact H⟩)
theorem ofI_n {n : Nat} (h : n < 2147483648) : Int32.ofInt (n : Int) = nI n := by
  have e := oI (nI n)
  rw [nI_toInt (show n < 2 ^ 31 from h)] at e
  exact e
theorem bAnd_n {n m : Nat} (hn : n < 2147483648) (hm : m < 2147483648) : bAnd (n : Int) (m : Int) = ((n &&& m : Nat) : Int) := by
  have hl : n &&& m < 2147483648 := Nat.lt_of_le_of_lt Nat.and_le_left hn
  unfold bAnd
  rw [ofI_n hn, ofI_n hm]
  have e : nI n &&& nI m = nI (n &&& m) := by
    refine Int32.toBitVec_inj.mp (BitVec.eq_of_toNat_eq ?_)
    rw [Int32.toBitVec_and, BitVec.toNat_and, pk_tn (show n < 2 ^ 32 by omega), pk_tn (show m < 2 ^ 32 by omega), pk_tn (show n &&& m < 2 ^ 32 by omega)]
  rw [e, nI_toInt (show n &&& m < 2 ^ 31 from hl)]
theorem bUshr_n {n : Nat} (hn : n < 2147483648) (k : Nat) {c : Int} (hs : (((Int32.ofInt c).toUInt32 &&& Int32.toUInt32 31).toBitVec % 32).toNat = k) : bUshr (n : Int) c = ((n / 2 ^ k : Nat) : Int) := by
  have hl : n / 2 ^ k < 2147483648 := Nat.lt_of_le_of_lt (Nat.div_le_self _ _) hn
  unfold bUshr
  rw [ofI_n hn, pk_ushrN (show n < 2 ^ 32 by omega) (Int32.ofInt c) k hs, nI_toInt (show n / 2 ^ k < 2 ^ 31 from hl)]
theorem land256 {a d m e : Nat} (hd : d < 256) (he : e < 256) : (256 * a + d) &&& (256 * m + e) = 256 * (a &&& m) + (d &&& e) := by
  have hde : d &&& e < 2 ^ 8 := Nat.lt_of_le_of_lt Nat.and_le_left hd
  refine Nat.eq_of_testBit_eq (fun i => ?_)
  rw [Nat.testBit_and, show 256 * a + d = 2 ^ 8 * a + d from rfl, show 256 * m + e = 2 ^ 8 * m + e from rfl, show 256 * (a &&& m) + (d &&& e) = 2 ^ 8 * (a &&& m) + (d &&& e) from rfl, Nat.testBit_two_pow_mul_add _ (show d < 2 ^ 8 from hd), Nat.testBit_two_pow_mul_add _ (show e < 2 ^ 8 from he), Nat.testBit_two_pow_mul_add _ hde]
  by_cases z : i < 8
  · rw [if_pos z, if_pos z, if_pos z, Nat.testBit_and]
  · rw [if_neg z, if_neg z, if_neg z, Nat.testBit_and]
theorem and_e1 : ∀ e : Fin 2, ∀ t : Fin 128, (128 * e.val + t.val) &&& 85 = t.val &&& 85 := by decide +kernel
theorem and_e2 : ∀ e : Fin 4, ∀ t : Fin 64, (64 * e.val + t.val) &&& 51 = t.val &&& 51 := by decide +kernel
def g1 (d : Nat) : Nat := d - (d / 2 &&& 85)
def g2 (d : Nat) : Nat := (d &&& 51) + (d / 4 &&& 51)
def g3 (d : Nat) : Nat := (d + d / 16) % 16
def pop8 (d : Nat) : Nat := d % 2 + d / 2 % 2 + d / 4 % 2 + d / 8 % 2 + d / 16 % 2 + d / 32 % 2 + d / 64 % 2 + d / 128 % 2
theorem g_all : ∀ d : Fin 256, g1 d.val < 256 ∧ g2 (g1 d.val) % 16 ≤ 4 ∧ g2 (g1 d.val) / 16 ≤ 4 ∧ g3 (g2 (g1 d.val)) = pop8 d.val ∧ pop8 d.val ≤ 8 := by decide +kernel
theorem f1_s {a d m : Nat} (hd : d < 256) : (256 * a + d) - ((256 * a + d) / 2 &&& (256 * m + 85)) = 256 * (a - (a / 2 &&& m)) + g1 d := by
  have e : (256 * a + d) / 2 = 256 * (a / 2) + (128 * (a % 2) + d / 2) := by omega
  have t := and_e1 ⟨a % 2, by omega⟩ ⟨d / 2, by omega⟩
  have t : (128 * (a % 2) + d / 2) &&& 85 = d / 2 &&& 85 := t
  rw [e, land256 (by omega) (by decide), t]
  unfold g1
  have l1 : a / 2 &&& m ≤ a / 2 := Nat.and_le_left
  have l2 : d / 2 &&& 85 ≤ d / 2 := Nat.and_le_left
  omega
theorem f2_s {a d m : Nat} (hd : d < 256) : ((256 * a + d) &&& (256 * m + 51)) + ((256 * a + d) / 4 &&& (256 * m + 51)) = 256 * ((a &&& m) + (a / 4 &&& m)) + g2 d := by
  have e : (256 * a + d) / 4 = 256 * (a / 4) + (64 * (a % 4) + d / 4) := by omega
  have t := and_e2 ⟨a % 4, by omega⟩ ⟨d / 4, by omega⟩
  have t : (64 * (a % 4) + d / 4) &&& 51 = d / 4 &&& 51 := t
  rw [e, land256 hd (by decide), land256 (by omega) (by decide), t]
  unfold g2
  omega
theorem and15 (x : Nat) : x &&& 15 = x % 16 := Nat.and_two_pow_sub_one_eq_mod x 4
theorem and63 (x : Nat) : x &&& 63 = x % 64 := Nat.and_two_pow_sub_one_eq_mod x 6
theorem f3_s {a d m : Nat} (h1 : d % 16 ≤ 4) (h2 : d / 16 ≤ 4) (h3 : a % 16 ≤ 4) : ((256 * a + d) + (256 * a + d) / 16) &&& (256 * m + 15) = 256 * ((a + a / 16) &&& m) + g3 d := by
  have e : (256 * a + d) + (256 * a + d) / 16 = 256 * (a + a / 16) + (d + d / 16 + 16 * (a % 16)) := by omega
  rw [e, land256 (by omega) (by decide), and15]
  unfold g3
  omega
theorem pop_f {A B C D z : Nat} (ha : A ≤ 8) (hb : B ≤ 8) (hc : C ≤ 8) (hd : D ≤ 8) (hz : z = 256 * (256 * (256 * D + C) + B) + A) : (z + z / 256 + (z + z / 256) / 65536) % 64 = A + B + C + D := by
  have s1 : z / 256 = 256 * (256 * D + C) + B := by omega
  rw [s1]
  have s2 : (z + (256 * (256 * D + C) + B)) / 65536 = 256 * D + (C + D) := by omega
  rw [s2]
  omega
theorem pop_n {d0 d1 d2 d3 : Nat} (h0 : d0 < 256) (h1 : d1 < 256) (h2 : d2 < 256) (h3 : d3 < 256) {n x y z : Nat} (hn : n = 256 * (256 * (256 * d3 + d2) + d1) + d0) (hx : x = n - (n / 2 &&& 1431655765)) (hy : y = (x &&& 858993459) + (x / 4 &&& 858993459)) (hz : z = (y + y / 16) &&& 252645135) : (z + z / 256 + (z + z / 256) / 65536) &&& 63 = pop8 d0 + pop8 d1 + pop8 d2 + pop8 d3 := by
  obtain ⟨a0, b0, c0, e0, p0⟩ := g_all ⟨d0, h0⟩
  obtain ⟨a1, b1, c1, e1, p1⟩ := g_all ⟨d1, h1⟩
  obtain ⟨a2, b2, c2, e2, p2⟩ := g_all ⟨d2, h2⟩
  obtain ⟨a3, b3, c3, e3, p3⟩ := g_all ⟨d3, h3⟩
  simp only at a0 b0 c0 e0 p0 a1 b1 c1 e1 p1 a2 b2 c2 e2 p2 a3 b3 c3 e3 p3
  have ex : x = 256 * (256 * (256 * g1 d3 + g1 d2) + g1 d1) + g1 d0 := by
    rw [hx, hn, show 1431655765 = 256 * (256 * (256 * 85 + 85) + 85) + 85 from rfl, f1_s h0, f1_s h1, f1_s h2, show d3 - (d3 / 2 &&& 85) = g1 d3 from rfl]
  have ey : y = 256 * (256 * (256 * g2 (g1 d3) + g2 (g1 d2)) + g2 (g1 d1)) + g2 (g1 d0) := by
    rw [hy, ex, show 858993459 = 256 * (256 * (256 * 51 + 51) + 51) + 51 from rfl, f2_s a0, f2_s a1, f2_s a2, show (g1 d3 &&& 51) + (g1 d3 / 4 &&& 51) = g2 (g1 d3) from rfl]
  have ez : z = 256 * (256 * (256 * pop8 d3 + pop8 d2) + pop8 d1) + pop8 d0 := by
    rw [hz, ey, show 252645135 = 256 * (256 * (256 * 15 + 15) + 15) + 15 from rfl, f3_s b0 c0 (by omega), f3_s b1 c1 (by omega), f3_s b2 c2 (by omega), and15, e0, e1, e2]
    have : (g2 (g1 d3) + g2 (g1 d3) / 16) % 16 = pop8 d3 := e3
    rw [this]
  rw [and63]
  exact pop_f (by omega) (by omega) (by omega) (by omega) ez
-- the bits as a count
def pcS (n : Nat) : Nat → Nat
  | 0 => 0
  | k + 1 => pcS n k + n / 2 ^ k % 2
theorem pcS_add (n m : Nat) : ∀ k : Nat, pcS n (m + k) = pcS n m + pcS (n / 2 ^ m) k
  | 0 => rfl
  | k + 1 => by
    show pcS n (m + k) + n / 2 ^ (m + k) % 2 = pcS n m + (pcS (n / 2 ^ m) k + n / 2 ^ m / 2 ^ k % 2)
    rw [pcS_add n m k, Nat.div_div_eq_div_mul, ← Nat.pow_add]
    omega
theorem pcS_s (n k : Nat) : pcS n (k + 1) = pcS n k + n / 2 ^ k % 2 := rfl
theorem pcS_8 {a d : Nat} (hd : d < 256) : pcS (256 * a + d) 8 = pop8 d := by
  have e0 : (256 * a + d) / 2 ^ 0 % 2 = d % 2 := by omega
  have e1 : (256 * a + d) / 2 ^ 1 % 2 = d / 2 % 2 := by omega
  have e2 : (256 * a + d) / 2 ^ 2 % 2 = d / 4 % 2 := by omega
  have e3 : (256 * a + d) / 2 ^ 3 % 2 = d / 8 % 2 := by omega
  have e4 : (256 * a + d) / 2 ^ 4 % 2 = d / 16 % 2 := by omega
  have e5 : (256 * a + d) / 2 ^ 5 % 2 = d / 32 % 2 := by omega
  have e6 : (256 * a + d) / 2 ^ 6 % 2 = d / 64 % 2 := by omega
  have e7 : (256 * a + d) / 2 ^ 7 % 2 = d / 128 % 2 := by omega
  rw [pcS_s, pcS_s, pcS_s, pcS_s, pcS_s, pcS_s, pcS_s, pcS_s, e0, e1, e2, e3, e4, e5, e6, e7]
  unfold pop8
  rw [show pcS (256 * a + d) 0 = 0 from rfl, Nat.zero_add]
theorem pcS_32 {d0 d1 d2 d3 : Nat} (h0 : d0 < 256) (h1 : d1 < 256) (h2 : d2 < 256) (h3 : d3 < 256) : pcS (256 * (256 * (256 * d3 + d2) + d1) + d0) 32 = pop8 d0 + pop8 d1 + pop8 d2 + pop8 d3 := by
  rw [show 32 = 8 + 24 from rfl, pcS_add, pcS_8 h0, show (256 * (256 * (256 * d3 + d2) + d1) + d0) / 2 ^ 8 = 256 * (256 * d3 + d2) + d1 by omega, show 24 = 8 + 16 from rfl, pcS_add, pcS_8 h1, show (256 * (256 * d3 + d2) + d1) / 2 ^ 8 = 256 * d3 + d2 by omega, show 16 = 8 + 8 from rfl, pcS_add, pcS_8 h2, show (256 * d3 + d2) / 2 ^ 8 = 256 * 0 + d3 by omega, pcS_8 h3]
  omega
def bcn (b : Nat → Bool) : Nat → Int
  | 0 => 0
  | k + 1 => bcn b k + (if b k then 1 else 0)
theorem bcn_b (b : Nat → Bool) : ∀ k : Nat, 0 ≤ bcn b k ∧ bcn b k ≤ (k : Int)
  | 0 => ⟨Int.le_refl _, Int.le_refl _⟩
  | k + 1 => by
    have := bcn_b b k
    have e : bcn b (k + 1) = bcn b k + (if b k then 1 else 0) := rfl
    rw [e]
    split <;> omega
theorem bcn_c {b b' : Nat → Bool} : ∀ k : Nat, (∀ x, x < k → b x = b' x) → bcn b k = bcn b' k
  | 0, _ => rfl
  | k + 1, h => by
    have e : ∀ b : Nat → Bool, bcn b (k + 1) = bcn b k + (if b k then 1 else 0) := fun _ => rfl
    rw [e, e, bcn_c k (fun x hx => h x (by omega)), h k (by omega)]
theorem tb_n {n : Nat} (hn : n < 2147483648) (x : Nat) : tb (n : Int) x = decide (n / 2 ^ x % 2 = 1) := by
  unfold tb
  rw [ofI_n hn]
  show (nI n).toBitVec.toNat.testBit x = _
  rw [pk_tn (show n < 2 ^ 32 by omega), Nat.testBit_eq_decide_div_mod_eq]
theorem bcn_n {n : Nat} (hn : n < 2147483648) : ∀ k : Nat, bcn (tb (n : Int)) k = ((pcS n k : Nat) : Int)
  | 0 => rfl
  | k + 1 => by
    have e : bcn (tb (n : Int)) (k + 1) = bcn (tb (n : Int)) k + (if tb (n : Int) k then 1 else 0) := rfl
    have e2 : pcS n (k + 1) = pcS n k + n / 2 ^ k % 2 := rfl
    rw [e, e2, bcn_n hn k, tb_n hn]
    by_cases z : n / 2 ^ k % 2 = 1
    · rw [decide_eq_true z, z]
      rfl
    · have z0 : n / 2 ^ k % 2 = 0 := by omega
      rw [decide_eq_false z, z0]
      rfl
theorem w32_n {m : Nat} (h : m < 2147483648) : w32 (m : Int) = (m : Int) := w32_id (by omega) (by omega)
theorem by4 (n : Nat) : n = 256 * (256 * (256 * (n / 16777216) + n / 65536 % 256) + n / 256 % 256) + n % 256 := by omega
theorem bc1 {n : Nat} (hn : n < 2147483648) : w32 ((n : Int) - bAnd (bUshr (n : Int) 1) 1431655765) = ((n - (n / 2 &&& 1431655765) : Nat) : Int) := by
  have u1 : bUshr (n : Int) 1 = ((n / 2 : Nat) : Int) := bUshr_n hn 1 (by decide +kernel)
  have a1 : bAnd ((n / 2 : Nat) : Int) 1431655765 = ((n / 2 &&& 1431655765 : Nat) : Int) := bAnd_n (m := 1431655765) (by omega) (by decide)
  have l1 : n / 2 &&& 1431655765 ≤ n / 2 := Nat.and_le_left
  rw [u1, a1]
  clear u1 a1
  generalize n / 2 &&& 1431655765 = t at l1 ⊢
  rw [w32_id (by omega) (by omega)]
  omega
theorem bc2 {x : Nat} (hx : x < 2147483648) : w32 (bAnd (x : Int) 858993459 + bAnd (bUshr (x : Int) 2) 858993459) = (((x &&& 858993459) + (x / 4 &&& 858993459) : Nat) : Int) ∧ (x &&& 858993459) + (x / 4 &&& 858993459) < 1717986919 := by
  have u2 : bUshr (x : Int) 2 = ((x / 4 : Nat) : Int) := bUshr_n hx 2 (by decide +kernel)
  have a2 : bAnd (x : Int) 858993459 = ((x &&& 858993459 : Nat) : Int) := bAnd_n (m := 858993459) hx (by decide)
  have a3 : bAnd ((x / 4 : Nat) : Int) 858993459 = ((x / 4 &&& 858993459 : Nat) : Int) := bAnd_n (m := 858993459) (by omega) (by decide)
  have l2 : x &&& 858993459 ≤ 858993459 := Nat.and_le_right
  have l3 : x / 4 &&& 858993459 ≤ 858993459 := Nat.and_le_right
  rw [u2, a2, a3]
  clear u2 a2 a3 hx
  generalize x &&& 858993459 = s at l2 ⊢
  generalize x / 4 &&& 858993459 = t at l3 ⊢
  exact ⟨by rw [← Int.natCast_add]; exact w32_n (by omega), by omega⟩
theorem bc3 {y : Nat} (hy : y < 1717986919) : bAnd (w32 ((y : Int) + bUshr (y : Int) 4)) 252645135 = ((y + y / 16 &&& 252645135 : Nat) : Int) ∧ y + y / 16 &&& 252645135 ≤ 252645135 := by
  have u4 : bUshr (y : Int) 4 = ((y / 16 : Nat) : Int) := bUshr_n (by omega) 4 (by decide +kernel)
  have a4 : bAnd ((y + y / 16 : Nat) : Int) 252645135 = ((y + y / 16 &&& 252645135 : Nat) : Int) := bAnd_n (m := 252645135) (by omega) (by decide)
  refine ⟨?_, Nat.and_le_right⟩
  rw [u4, ← Int.natCast_add, w32_n (by omega), a4]
theorem bc4 {z : Nat} (hz : z ≤ 252645135) : bAnd (w32 (w32 ((z : Int) + bUshr (z : Int) 8) + bUshr (w32 ((z : Int) + bUshr (z : Int) 8)) 16)) 63 = ((z + z / 256 + (z + z / 256) / 65536 &&& 63 : Nat) : Int) := by
  have u8 : bUshr (z : Int) 8 = ((z / 256 : Nat) : Int) := bUshr_n (by omega) 8 (by decide +kernel)
  have b4 : z + z / 256 < 1073741824 := by omega
  rw [u8, ← Int.natCast_add, w32_n (by omega)]
  clear u8 hz
  generalize z + z / 256 = t at b4 ⊢
  have u16 : bUshr (t : Int) 16 = ((t / 65536 : Nat) : Int) := bUshr_n (by omega) 16 (by decide +kernel)
  rw [u16, ← Int.natCast_add, w32_n (by omega)]
  exact bAnd_n (m := 63) (by omega) (by decide)
theorem bcn_e {a : Int} (h0 : 0 ≤ a) (h1 : a < 2147483648) {x y z : Int} (hx : x = w32 (a - bAnd (bUshr a 1) 1431655765)) (hy : y = w32 (bAnd x 858993459 + bAnd (bUshr x 2) 858993459)) (hz : z = bAnd (w32 (y + bUshr y 4)) 252645135) : bAnd (w32 (w32 (z + bUshr z 8) + bUshr (w32 (z + bUshr z 8)) 16)) 63 = bcn (tb a) 32 := by
  obtain ⟨n, rfl⟩ : ∃ n : Nat, a = (n : Int) := ⟨a.toNat, by omega⟩
  have hn : n < 2147483648 := by omega
  clear h0 h1
  have e1 := bc1 hn
  have b1 : n - (n / 2 &&& 1431655765) < 2147483648 := Nat.lt_of_le_of_lt (Nat.sub_le _ _) hn
  have e2 := bc2 b1
  have e3 := bc3 e2.2
  rw [hz, hy, hx, e1, e2.1, e3.1, bc4 e3.2, bcn_n hn]
  have q : pcS n 32 = _ := (congrArg (fun m => pcS m 32) (by4 n)).trans (pcS_32 (d0 := n % 256) (d1 := n / 256 % 256) (d2 := n / 65536 % 256) (d3 := n / 16777216) (Nat.mod_lt _ (by decide)) (Nat.mod_lt _ (by decide)) (Nat.mod_lt _ (by decide)) (Nat.div_lt_of_lt_mul (Nat.lt_trans hn (by decide))))
  have p := pop_n (d0 := n % 256) (d1 := n / 256 % 256) (d2 := n / 65536 % 256) (d3 := n / 16777216) (Nat.mod_lt _ (by decide)) (Nat.mod_lt _ (by decide)) (Nat.mod_lt _ (by decide)) (Nat.div_lt_of_lt_mul (Nat.lt_trans hn (by decide))) (by4 n) rfl rfl rfl
  rw [p, q]
theorem c_329 {n : Nat} {X : aX} {h : aH} {x0 : Int32} {a0 : Int} (S : wS h) (z0 : x0.toInt = a0) (hp : 0 ≤ a0) : Pt n X zM329 0 [some (.int x0)] [] h (qI (fun y h' => h' = h ∧ y = bcn (tb a0) 32)) := by
  have r := iR x0
  exact pt_d (d329_0 S z0 ⟨rfl, bcn_e hp (by omega) rfl rfl rfl⟩)
theorem tb_and (a b : Int) (x : Nat) : tb (bAnd a b) x = (tb a x && tb b x) := by
  unfold tb bAnd
  rw [oI, Int32.toBitVec_and, BitVec.getLsbD_and]


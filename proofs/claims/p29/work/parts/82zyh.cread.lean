-- ===== the class reads a text =====
theorem tl_35 : tkL 35 3 2560 = true := by decide +kernel
theorem tr_33_2 : tkR 33 2 35 = true := by decide +kernel
theorem gx134_0 : aF 0 zM134.2.2.2.2.2.2.2 = some (0, (.bipush 48), 2, 0, 0) := by decide +kernel
theorem gx134_2 : aF 2 zM134.2.2.2.2.2.2.2 = some (2, (.iload_n 0), 1, 0, 0) := by decide +kernel
theorem gx134_3 : aF 3 zM134.2.2.2.2.2.2.2 = some (3, (.if_icmp .gt 13), 3, 16, 0) := by decide +kernel
theorem gx134_16 : aF 16 zM134.2.2.2.2.2.2.2 = some (16, (.iconst 0), 1, 0, 0) := by decide +kernel
theorem gx134_17 : aF 17 zM134.2.2.2.2.2.2.2 = some (17, .ireturn, 1, 0, 0) := by decide +kernel
theorem gx134_6 : aF 6 zM134.2.2.2.2.2.2.2 = some (6, (.iload_n 0), 1, 0, 0) := by decide +kernel
theorem gx134_7 : aF 7 zM134.2.2.2.2.2.2.2 = some (7, (.bipush 57), 2, 0, 0) := by decide +kernel
theorem gx134_9 : aF 9 zM134.2.2.2.2.2.2.2 = some (9, (.if_icmp .gt 7), 3, 16, 0) := by decide +kernel
theorem gx134_12 : aF 12 zM134.2.2.2.2.2.2.2 = some (12, (.iconst 1), 1, 0, 0) := by decide +kernel
theorem gx134_13 : aF 13 zM134.2.2.2.2.2.2.2 = some (13, (.goto 4), 3, 17, 0) := by decide +kernel
theorem gx124_0 : aF 0 zM124.2.2.2.2.2.2.2 = some (0, (.aload_n 0), 1, 0, 0) := by decide +kernel
theorem gx124_1 : aF 1 zM124.2.2.2.2.2.2.2 = some (1, (.getfield 72), 3, 10, 12) := by decide +kernel
theorem gx124_4 : aF 4 zM124.2.2.2.2.2.2.2 = some (4, (.iconst (-1)), 1, 0, 0) := by decide +kernel
theorem gx124_5 : aF 5 zM124.2.2.2.2.2.2.2 = some (5, (.if_icmp .ne 35), 3, 40, 0) := by decide +kernel
theorem gx124_40 : aF 40 zM124.2.2.2.2.2.2.2 = some (40, (.iconst (-1)), 1, 0, 0) := by decide +kernel
theorem gx124_41 : aF 41 zM124.2.2.2.2.2.2.2 = some (41, .ireturn, 1, 0, 0) := by decide +kernel
theorem gx124_8 : aF 8 zM124.2.2.2.2.2.2.2 = some (8, (.aload_n 0), 1, 0, 0) := by decide +kernel
theorem gx124_9 : aF 9 zM124.2.2.2.2.2.2.2 = some (9, (.getfield 75), 3, 10, 11) := by decide +kernel
theorem gx124_12 : aF 12 zM124.2.2.2.2.2.2.2 = some (12, (.aload_n 0), 1, 0, 0) := by decide +kernel
theorem gx124_13 : aF 13 zM124.2.2.2.2.2.2.2 = some (13, (.getfield 78), 3, 10, 10) := by decide +kernel
theorem gx124_16 : aF 16 zM124.2.2.2.2.2.2.2 = some (16, (.if_icmp .ge 24), 3, 40, 0) := by decide +kernel
theorem gx124_19 : aF 19 zM124.2.2.2.2.2.2.2 = some (19, (.aload_n 0), 1, 0, 0) := by decide +kernel
theorem gx124_20 : aF 20 zM124.2.2.2.2.2.2.2 = some (20, (.getfield 15), 3, 10, 2) := by decide +kernel
theorem gx124_23 : aF 23 zM124.2.2.2.2.2.2.2 = some (23, (.aload_n 0), 1, 0, 0) := by decide +kernel
theorem gx124_24 : aF 24 zM124.2.2.2.2.2.2.2 = some (24, (.getfield 81), 3, 10, 9) := by decide +kernel
theorem gx124_27 : aF 27 zM124.2.2.2.2.2.2.2 = some (27, (.aload_n 0), 1, 0, 0) := by decide +kernel
theorem gx124_28 : aF 28 zM124.2.2.2.2.2.2.2 = some (28, (.getfield 75), 3, 10, 11) := by decide +kernel
theorem gx124_31 : aF 31 zM124.2.2.2.2.2.2.2 = some (31, .iadd, 1, 0, 0) := by decide +kernel
theorem gx124_32 : aF 32 zM124.2.2.2.2.2.2.2 = some (32, .baload, 1, 0, 0) := by decide +kernel
theorem gx124_33 : aF 33 zM124.2.2.2.2.2.2.2 = some (33, (.sipush 255), 3, 0, 0) := by decide +kernel
theorem gx124_36 : aF 36 zM124.2.2.2.2.2.2.2 = some (36, .iand, 1, 0, 0) := by decide +kernel
theorem gx124_37 : aF 37 zM124.2.2.2.2.2.2.2 = some (37, (.goto 4), 3, 41, 0) := by decide +kernel
theorem gx126_0 : aF 0 zM126.2.2.2.2.2.2.2 = some (0, (.aload_n 0), 1, 0, 0) := by decide +kernel
theorem gx126_1 : aF 1 zM126.2.2.2.2.2.2.2 = some (1, (.getfield 72), 3, 10, 12) := by decide +kernel
theorem gx126_4 : aF 4 zM126.2.2.2.2.2.2.2 = some (4, (.iconst (-1)), 1, 0, 0) := by decide +kernel
theorem gx126_5 : aF 5 zM126.2.2.2.2.2.2.2 = some (5, (.if_icmp .ne 11), 3, 16, 0) := by decide +kernel
theorem gx126_16 : aF 16 zM126.2.2.2.2.2.2.2 = some (16, .return_, 1, 0, 0) := by decide +kernel
theorem gx126_8 : aF 8 zM126.2.2.2.2.2.2.2 = some (8, (.aload_n 0), 1, 0, 0) := by decide +kernel
theorem gx126_9 : aF 9 zM126.2.2.2.2.2.2.2 = some (9, (.aload_n 0), 1, 0, 0) := by decide +kernel
theorem gx126_10 : aF 10 zM126.2.2.2.2.2.2.2 = some (10, (.getfield 75), 3, 10, 11) := by decide +kernel
theorem gx126_13 : aF 13 zM126.2.2.2.2.2.2.2 = some (13, (.putfield 72), 3, 10, 12) := by decide +kernel
theorem gx125_0 : aF 0 zM125.2.2.2.2.2.2.2 = some (0, (.aload_n 0), 1, 0, 0) := by decide +kernel
theorem gx125_1 : aF 1 zM125.2.2.2.2.2.2.2 = some (1, (.invokevirtual 84), 3, 124, 0) := by decide +kernel
theorem gx125_4 : aF 4 zM125.2.2.2.2.2.2.2 = some (4, (.iload_n 1), 1, 0, 0) := by decide +kernel
theorem gx125_5 : aF 5 zM125.2.2.2.2.2.2.2 = some (5, (.if_icmp .ne 7), 3, 12, 0) := by decide +kernel
theorem gx125_12 : aF 12 zM125.2.2.2.2.2.2.2 = some (12, (.iconst 0), 1, 0, 0) := by decide +kernel
theorem gx125_13 : aF 13 zM125.2.2.2.2.2.2.2 = some (13, (.istore_n 2), 1, 0, 0) := by decide +kernel
theorem gx125_14 : aF 14 zM125.2.2.2.2.2.2.2 = some (14, (.aload_n 0), 1, 0, 0) := by decide +kernel
theorem gx125_15 : aF 15 zM125.2.2.2.2.2.2.2 = some (15, .dup, 1, 0, 0) := by decide +kernel
theorem gx125_16 : aF 16 zM125.2.2.2.2.2.2.2 = some (16, (.getfield 75), 3, 10, 11) := by decide +kernel
theorem gx125_19 : aF 19 zM125.2.2.2.2.2.2.2 = some (19, (.iload_n 2), 1, 0, 0) := by decide +kernel
theorem gx125_20 : aF 20 zM125.2.2.2.2.2.2.2 = some (20, (.ifCond .eq 7), 3, 27, 0) := by decide +kernel
theorem gx125_27 : aF 27 zM125.2.2.2.2.2.2.2 = some (27, (.iconst 0), 1, 0, 0) := by decide +kernel
theorem gx125_28 : aF 28 zM125.2.2.2.2.2.2.2 = some (28, .iadd, 1, 0, 0) := by decide +kernel
theorem gx125_29 : aF 29 zM125.2.2.2.2.2.2.2 = some (29, (.putfield 75), 3, 10, 11) := by decide +kernel
theorem gx125_32 : aF 32 zM125.2.2.2.2.2.2.2 = some (32, (.iload_n 2), 1, 0, 0) := by decide +kernel
theorem gx125_33 : aF 33 zM125.2.2.2.2.2.2.2 = some (33, .ireturn, 1, 0, 0) := by decide +kernel
theorem gx125_8 : aF 8 zM125.2.2.2.2.2.2.2 = some (8, (.iconst 1), 1, 0, 0) := by decide +kernel
theorem gx125_9 : aF 9 zM125.2.2.2.2.2.2.2 = some (9, (.goto 4), 3, 13, 0) := by decide +kernel
theorem gx125_23 : aF 23 zM125.2.2.2.2.2.2.2 = some (23, (.iconst 1), 1, 0, 0) := by decide +kernel
theorem gx125_24 : aF 24 zM125.2.2.2.2.2.2.2 = some (24, (.goto 4), 3, 28, 0) := by decide +kernel
theorem gx127_0 : aF 0 zM127.2.2.2.2.2.2.2 = some (0, (.iload_n 0), 1, 0, 0) := by decide +kernel
theorem gx127_1 : aF 1 zM127.2.2.2.2.2.2.2 = some (1, (.ifCond .eq 7), 3, 8, 0) := by decide +kernel
theorem gx127_8 : aF 8 zM127.2.2.2.2.2.2.2 = some (8, (.iconst 0), 1, 0, 0) := by decide +kernel
theorem gx127_9 : aF 9 zM127.2.2.2.2.2.2.2 = some (9, .ireturn, 1, 0, 0) := by decide +kernel
theorem gx127_4 : aF 4 zM127.2.2.2.2.2.2.2 = some (4, (.iconst 1), 1, 0, 0) := by decide +kernel
theorem gx127_5 : aF 5 zM127.2.2.2.2.2.2.2 = some (5, (.goto 4), 3, 9, 0) := by decide +kernel
theorem gx135_0 : aF 0 zM135.2.2.2.2.2.2.2 = some (0, (.iconst 0), 1, 0, 0) := by decide +kernel
theorem gx135_1 : aF 1 zM135.2.2.2.2.2.2.2 = some (1, (.istore_n 1), 1, 0, 0) := by decide +kernel
theorem gx135_2 : aF 2 zM135.2.2.2.2.2.2.2 = some (2, (.iconst 0), 1, 0, 0) := by decide +kernel
theorem gx135_3 : aF 3 zM135.2.2.2.2.2.2.2 = some (3, (.istore_n 2), 1, 0, 0) := by decide +kernel
theorem gx135_4 : aF 4 zM135.2.2.2.2.2.2.2 = some (4, (.iload_n 2), 1, 0, 0) := by decide +kernel
theorem gx135_5 : aF 5 zM135.2.2.2.2.2.2.2 = some (5, (.bipush 6), 2, 0, 0) := by decide +kernel
theorem gx135_7 : aF 7 zM135.2.2.2.2.2.2.2 = some (7, (.if_icmp .ge 42), 3, 49, 0) := by decide +kernel
theorem gx135_49 : aF 49 zM135.2.2.2.2.2.2.2 = some (49, (.iload_n 1), 1, 0, 0) := by decide +kernel
theorem gx135_50 : aF 50 zM135.2.2.2.2.2.2.2 = some (50, .ireturn, 1, 0, 0) := by decide +kernel
theorem gx135_10 : aF 10 zM135.2.2.2.2.2.2.2 = some (10, (.aload_n 0), 1, 0, 0) := by decide +kernel
theorem gx135_11 : aF 11 zM135.2.2.2.2.2.2.2 = some (11, (.invokevirtual 84), 3, 124, 0) := by decide +kernel
theorem gx135_14 : aF 14 zM135.2.2.2.2.2.2.2 = some (14, (.invokestatic 107), 3, 134, 0) := by decide +kernel
theorem gx135_17 : aF 17 zM135.2.2.2.2.2.2.2 = some (17, (.ifCond .eq 32), 3, 49, 0) := by decide +kernel
theorem gx135_20 : aF 20 zM135.2.2.2.2.2.2.2 = some (20, (.iload_n 1), 1, 0, 0) := by decide +kernel
theorem gx135_21 : aF 21 zM135.2.2.2.2.2.2.2 = some (21, (.bipush 10), 2, 0, 0) := by decide +kernel
theorem gx135_23 : aF 23 zM135.2.2.2.2.2.2.2 = some (23, .imul, 1, 0, 0) := by decide +kernel
theorem gx135_24 : aF 24 zM135.2.2.2.2.2.2.2 = some (24, (.aload_n 0), 1, 0, 0) := by decide +kernel
theorem gx135_25 : aF 25 zM135.2.2.2.2.2.2.2 = some (25, (.invokevirtual 84), 3, 124, 0) := by decide +kernel
theorem gx135_28 : aF 28 zM135.2.2.2.2.2.2.2 = some (28, .iadd, 1, 0, 0) := by decide +kernel
theorem gx135_29 : aF 29 zM135.2.2.2.2.2.2.2 = some (29, (.bipush 48), 2, 0, 0) := by decide +kernel
theorem gx135_31 : aF 31 zM135.2.2.2.2.2.2.2 = some (31, .isub, 1, 0, 0) := by decide +kernel
theorem gx135_32 : aF 32 zM135.2.2.2.2.2.2.2 = some (32, (.istore_n 1), 1, 0, 0) := by decide +kernel
theorem gx135_33 : aF 33 zM135.2.2.2.2.2.2.2 = some (33, (.aload_n 0), 1, 0, 0) := by decide +kernel
theorem gx135_34 : aF 34 zM135.2.2.2.2.2.2.2 = some (34, .dup, 1, 0, 0) := by decide +kernel
theorem gx135_35 : aF 35 zM135.2.2.2.2.2.2.2 = some (35, (.getfield 75), 3, 10, 11) := by decide +kernel
theorem gx135_38 : aF 38 zM135.2.2.2.2.2.2.2 = some (38, (.iconst 1), 1, 0, 0) := by decide +kernel
theorem gx135_39 : aF 39 zM135.2.2.2.2.2.2.2 = some (39, .iadd, 1, 0, 0) := by decide +kernel
theorem gx135_40 : aF 40 zM135.2.2.2.2.2.2.2 = some (40, (.putfield 75), 3, 10, 11) := by decide +kernel
theorem gx135_43 : aF 43 zM135.2.2.2.2.2.2.2 = some (43, (.iinc 2 1), 3, 0, 0) := by decide +kernel
theorem gx135_46 : aF 46 zM135.2.2.2.2.2.2.2 = some (46, (.goto (-42)), 3, 4, 0) := by decide +kernel
section PT4
variable {n : Nat} {X : aX} {M : aM} {Q : Option Value → aH → Prop} {pc len a b : Nat} {l : aL} {r : List Value} {h : aH}
theorem pt_ialdN {j : Int32} (hf : aF pc M.2.2.2.2.2.2.2 = some (pc, .iaload, len, a, b)) : Pt (n + 1) X M pc l (.int j :: .null :: r) h Q := pt_s fun m hm d v h2 e => by
  rw [arun_p hf rfl] at e
  exact absurd e (by simp [aX1])
end PT4
def cTx (V : vS) (p : Int) : Int := if 0 ≤ p ∧ p < V 33 10 then V 35 (V 33 9 + p) else -1
def tIn (V : vS) : Prop := (0 ≤ V 33 11 ∧ V 33 11 ≤ V 33 10) ∧ V 33 10 ≤ 160 ∧ (0 ≤ V 33 9 ∧ V 33 9 ≤ 2400) ∧ ∀ j, 0 ≤ j → j < 2560 → -128 ≤ V 35 j ∧ V 35 j ≤ 127
def cSg (V : vS) : Int := if V 33 12 = -1 ∧ V 33 11 < V 33 10 then bAnd (V 35 (w32 (V 33 9 + V 33 11))) 255 else -1
theorem ba255' : ∀ t : Fin 256, bAnd ((t.val : Int) - 128) 255 = if 0 ≤ ((t.val : Int) - 128) then ((t.val : Int) - 128) else ((t.val : Int) - 128) + 256 := by decide +kernel
theorem ba255 {t : Int} (h0 : -128 ≤ t) (h1 : t ≤ 127) : bAnd t 255 = if 0 ≤ t then t else t + 256 := by
  have := ba255' ⟨(t + 128).toNat, by omega⟩
  have e : (((t + 128).toNat : Nat) : Int) - 128 = t := by omega
  simp only [e] at this
  exact this
theorem cSg_n {V : vS} (h : V 33 12 ≠ -1) : cSg V = -1 := if_neg (fun z => h z.1)
theorem cSg_t {V : vS} (I : tIn V) (h : V 33 12 = -1) : (V 33 11 < V 33 10 ∧ (-128 ≤ cTx V (V 33 11) ∧ cTx V (V 33 11) ≤ 127) ∧ cSg V = if 0 ≤ cTx V (V 33 11) then cTx V (V 33 11) else cTx V (V 33 11) + 256) ∨ (V 33 11 = V 33 10 ∧ cTx V (V 33 11) = -1 ∧ cSg V = -1) := by
  obtain ⟨i1, i2, i3, i4⟩ := I
  by_cases z : V 33 11 < V 33 10
  · have b := i4 (V 33 9 + V 33 11) (by omega) (by omega)
    have e1 : cSg V = bAnd (V 35 (V 33 9 + V 33 11)) 255 := by
      unfold cSg
      rw [if_pos ⟨h, z⟩, w32_id (by omega) (by omega)]
    have e2 : cTx V (V 33 11) = V 35 (V 33 9 + V 33 11) := by
      unfold cTx
      exact if_pos ⟨i1.1, z⟩
    rw [e1, e2]
    exact Or.inl ⟨z, b, ba255 b.1 b.2⟩
  · have e1 : cSg V = -1 := by
      unfold cSg
      exact if_neg (fun w => z w.2)
    have e2 : cTx V (V 33 11) = -1 := by
      unfold cTx
      exact if_neg (fun w => z w.2)
    exact Or.inr ⟨by omega, e2, e1⟩
theorem cSg_e {V : vS} (I : tIn V) (h : V 33 12 = -1) {c : Int} (c0 : 0 ≤ c) (c1 : c ≤ 127) : cSg V = c ↔ cTx V (V 33 11) = c := by
  rcases cSg_t I h with ⟨_, b, e⟩ | ⟨_, b, e⟩
  · rw [e]; split <;> omega
  · rw [e, b]
theorem cSg_d {V : vS} (I : tIn V) (h : V 33 12 = -1) : (48 ≤ cSg V ∧ cSg V ≤ 57) ↔ isD (cTx V (V 33 11)) = true := by
  unfold isD
  rw [decide_eq_true_eq]
  rcases cSg_t I h with ⟨_, b, e⟩ | ⟨_, b, e⟩
  · rw [e]; split <;> omega
  · rw [e, b]
theorem nm255 : ∀ t : Fin 256, (iIx (bChr (t.val : Int)) = -1 ↔ nmB (t.val : Int) = false) ∧ (128 ≤ t.val → nmB ((t.val : Int) - 256) = false ∧ nmB (t.val : Int) = false) := by decide +kernel
theorem cSg_m {V : vS} (I : tIn V) (h : V 33 12 = -1) : (cSg V = -1 → nmB (cTx V (V 33 11)) = false) ∧ (cSg V ≠ -1 → (iIx (bChr (cSg V)) = -1 ↔ nmB (cTx V (V 33 11)) = false)) := by
  rcases cSg_t I h with ⟨_, b, e⟩ | ⟨_, b, e⟩
  · refine ⟨fun w => by rw [e] at w; split at w <;> omega, fun _ => ?_⟩
    rw [e]
    by_cases z : 0 ≤ cTx V (V 33 11)
    · rw [if_pos z]
      have := (nm255 ⟨(cTx V (V 33 11)).toNat, by omega⟩).1
      rw [show (((cTx V (V 33 11)).toNat : Nat) : Int) = cTx V (V 33 11) by omega] at this
      exact this
    · rw [if_neg z]
      have := nm255 ⟨(cTx V (V 33 11) + 256).toNat, by omega⟩
      simp only [show (((cTx V (V 33 11) + 256).toNat : Nat) : Int) = cTx V (V 33 11) + 256 by omega, show cTx V (V 33 11) + 256 - 256 = cTx V (V 33 11) by omega] at this
      have t2 := this.2 (by omega)
      exact ⟨fun _ => t2.1, fun _ => this.1.mpr t2.2⟩
  · refine ⟨fun _ => by rw [b]; rfl, fun w => absurd e w⟩
theorem up_id (V : vS) (c : Nat) (j : Int) : up V c j (V c j) = V := by
  funext c' j'
  unfold up
  split
  · rename_i z; rw [z.1, z.2]
  · rfl
theorem up_up (V : vS) (c : Nat) (j a b : Int) : up (up V c j a) c j b = up V c j b := by
  funext c' j'
  unfold up
  split <;> rfl
theorem up_sw (V : vS) (c : Nat) {j j' : Int} (h : j ≠ j') (a b : Int) : up (up V c j a) c j' b = up (up V c j' b) c j a := by
  funext c' x
  unfold up
  by_cases z : c' = c
  · subst z
    by_cases z1 : x = j
    · subst z1
      rw [if_neg (fun w => h w.2), if_pos ⟨rfl, rfl⟩, if_pos ⟨rfl, rfl⟩]
    · by_cases z2 : x = j'
      · subst z2
        rw [if_pos ⟨rfl, rfl⟩, if_neg (fun w => z1 w.2), if_pos ⟨rfl, rfl⟩]
      · rw [if_neg (fun w => z2 w.2), if_neg (fun w => z1 w.2), if_neg (fun w => z1 w.2), if_neg (fun w => z2 w.2)]
  · rw [if_neg (fun w => z w.1), if_neg (fun w => z w.1), if_neg (fun w => z w.1), if_neg (fun w => z w.1)]

theorem d134_0 {n : Nat} {X : aX} {h : aH} {P : Int → aH → Prop} {x0 : Int32} {a0 : Int} (S : wS h) (z0 : x0.toInt = a0) (H : ((a0 < 48 → P 0 h) ∧ (48 ≤ a0 → ((57 < a0 → P 0 h) ∧ (a0 ≤ 57 → P 1 h))))) : Pt (n + 1) X zM134 0 [some (.int x0)] [] h (qI P) := by
  refine pt_bipush gx134_0 (fun v1 h1 => ?_)
  refine pt_d (pt_1 (fun n d => r_iloadn gx134_2 rfl) ?_)
  refine pt_d (pt_icmp_gt gx134_3 h1 z0 (fun e2 => ?_) (fun e2 => ?_))
  · have H := H.1 e2
    refine pt_d (pt_iconst gx134_16 (fun v3 h3 => ?_))
    exact pt_d (pt_iret gx134_17 ⟨_, rfl, by rw [h3]; exact H⟩)
  · have H := H.2 e2
    refine pt_d (pt_1 (fun n d => r_iloadn gx134_6 rfl) ?_)
    refine pt_d (pt_bipush gx134_7 (fun v4 h4 => ?_))
    refine pt_d (pt_icmp_gt gx134_9 z0 h4 (fun e5 => ?_) (fun e5 => ?_))
    · have H := H.1 e5
      refine pt_d (pt_iconst gx134_16 (fun v6 h6 => ?_))
      exact pt_d (pt_iret gx134_17 ⟨_, rfl, by rw [h6]; exact H⟩)
    · have H := H.2 e5
      refine pt_d (pt_iconst gx134_12 (fun v7 h7 => ?_))
      refine pt_d (pt_1 (fun n d => r_goto gx134_13) ?_)
      exact pt_d (pt_iret gx134_17 ⟨_, rfl, by rw [h7]; exact H⟩)
theorem c_134 {n : Nat} {X : aX} {h : aH} {x0 : Int32} {a0 : Int} (S : wS h) (z0 : x0.toInt = a0) : Pt n X zM134 0 [some (.int x0)] [] h (qI (fun y h' => h' = h ∧ y = bI (48 ≤ a0 ∧ a0 ≤ 57))) := by
  refine pt_d (d134_0 S z0 ?_)
  repeat' (first | (refine And.intro ?_ ?_) | intro _)
  all_goals first
    | rfl
    | exact (bI_t (by omega)).symm
    | exact (bI_f (by omega)).symm
    | exact bI_c (by omega)
    | omega
theorem d124_0 {n : Nat} {X : aX} {h : aH} {P : Int → aH → Prop} (S : wS h) (H : ((vw h 33 12 ≠ (-1) → P (-1) h) ∧ (vw h 33 12 = (-1) → ((vw h 33 10 ≤ vw h 33 11 → P (-1) h) ∧ (vw h 33 11 < vw h 33 10 → (0 ≤ w32 ((vw h 33 9) + (vw h 33 11)) → w32 ((vw h 33 9) + (vw h 33 11)) < 2560 → P (bAnd (vw h 35 (w32 ((vw h 33 9) + (vw h 33 11)))) 255) h)))))) : Pt (n + 1) X zM124 0 [some (.ref 33)] [] h (qI P) := by
  refine pt_1 (fun n d => r_aloadn gx124_0 rfl) ?_
  refine pt_d (pt_getI (B := 12) gx124_1 S (fun v1 h1 => ?_))
  refine pt_d (pt_iconst gx124_4 (fun v2 h2 => ?_))
  refine pt_d (pt_icmp_ne gx124_5 h1 h2 (fun e3 => ?_) (fun e3 => ?_))
  · have H := H.1 e3
    refine pt_d (pt_iconst gx124_40 (fun v4 h4 => ?_))
    exact pt_d (pt_iret gx124_41 ⟨_, rfl, by rw [h4]; exact H⟩)
  · have H := H.2 e3
    refine pt_d (pt_1 (fun n d => r_aloadn gx124_8 rfl) ?_)
    refine pt_d (pt_getI (B := 11) gx124_9 S (fun v5 h5 => ?_))
    refine pt_d (pt_1 (fun n d => r_aloadn gx124_12 rfl) ?_)
    refine pt_d (pt_getI (B := 10) gx124_13 S (fun v6 h6 => ?_))
    refine pt_d (pt_icmp_ge gx124_16 h5 h6 (fun e7 => ?_) (fun e7 => ?_))
    · have H := H.1 e7
      refine pt_d (pt_iconst gx124_40 (fun v8 h8 => ?_))
      exact pt_d (pt_iret gx124_41 ⟨_, rfl, by rw [h8]; exact H⟩)
    · have H := H.2 e7
      refine pt_d (pt_1 (fun n d => r_aloadn gx124_19 rfl) ?_)
      refine pt_d (pt_getR gx124_20 S tr_33_2 ?_)
      refine pt_d (pt_1 (fun n d => r_aloadn gx124_23 rfl) ?_)
      refine pt_d (pt_getI (B := 9) gx124_24 S (fun v10 h10 => ?_))
      refine pt_d (pt_1 (fun n d => r_aloadn gx124_27 rfl) ?_)
      refine pt_d (pt_getI (B := 11) gx124_28 S (fun v11 h11 => ?_))
      refine pt_d (pt_iadd gx124_31 h10 h11 (fun v12 h12 => ?_))
      refine pt_d (pt_bald (N' := 2560) gx124_32 S tl_35 h12 (fun v13 p13 q13 h13 => ?_))
      have H := H p13 q13
      refine pt_d (pt_sipush gx124_33 (fun v14 h14 => ?_))
      refine pt_d (pt_iand gx124_36 h13 h14 (fun v15 h15 => ?_))
      refine pt_d (pt_1 (fun n d => r_goto gx124_37) ?_)
      exact pt_d (pt_iret gx124_41 ⟨_, rfl, by rw [h15]; exact H⟩)
theorem c_124 {n : Nat} {X : aX} {h : aH} (S : wS h) : Pt n X zM124 0 [some (.ref 33)] [] h (qI (fun y h' => h' = h ∧ y = cSg (vw h))) := by
  refine pt_d (d124_0 S ⟨fun e => ⟨rfl, (cSg_n e).symm⟩, fun e => ⟨fun e2 => ⟨rfl, ?_⟩, fun e2 p q => ⟨rfl, ?_⟩⟩⟩)
  · exact (if_neg (fun z => by omega)).symm
  · exact (if_pos ⟨e, e2⟩).symm

theorem d126_0 {n : Nat} {X : aX} {h : aH} {P : aH → Prop} (S : wS h) (H : ((vw h 33 12 ≠ (-1) → P h) ∧ (vw h 33 12 = (-1) → ∀ h_5 : aH, wS h_5 → vw h_5 = up (vw h) 33 12 (vw h 33 11) → P h_5))) : Pt (n + 1) X zM126 0 [some (.ref 33)] [] h (qN P) := by
  refine pt_1 (fun n d => r_aloadn gx126_0 rfl) ?_
  refine pt_d (pt_getI (B := 12) gx126_1 S (fun v1 h1 => ?_))
  refine pt_d (pt_iconst gx126_4 (fun v2 h2 => ?_))
  refine pt_d (pt_icmp_ne gx126_5 h1 h2 (fun e3 => ?_) (fun e3 => ?_))
  · have H := H.1 e3
    exact pt_d (pt_vret gx126_16 ⟨rfl, H⟩)
  · have H := H.2 e3
    refine pt_d (pt_1 (fun n d => r_aloadn gx126_8 rfl) ?_)
    refine pt_d (pt_1 (fun n d => r_aloadn gx126_9 rfl) ?_)
    refine pt_d (pt_getI (B := 11) gx126_10 S (fun v4 h4 => ?_))
    refine pt_d (pt_putI (B := 12) gx126_13 S h4 (fun h_5 S5 e5 => ?_))
    have H := H h_5 S5 (by rw [e5])
    exact pt_d (pt_vret gx126_16 ⟨rfl, H⟩)
def R126 (V V' : vS) : Prop := (V 33 12 ≠ -1 ∧ V' = V) ∨ (V 33 12 = -1 ∧ V' = up V 33 12 (V 33 11))
theorem c_126 {n : Nat} {X : aX} {h : aH} (S : wS h) : Pt n X zM126 0 [some (.ref 33)] [] h (qN (fun h' => wS h' ∧ R126 (vw h) (vw h'))) := pt_d (d126_0 S ⟨fun e => ⟨S, Or.inl ⟨e, rfl⟩⟩, fun e g S2 eg => ⟨S2, Or.inr ⟨e, eg⟩⟩⟩)

theorem d125_0 {n : Nat} {X : aX} {h : aH} {P : Int → aH → Prop} {x1 : Int32} {a1 : Int} (S : wS h) (z1 : x1.toInt = a1) (H : ((cSg (vw h) ≠ a1 → ∀ h_8 : aH, wS h_8 → vw h_8 = up (vw h) 33 11 (w32 ((vw h 33 11) + 0)) → P 0 h_8) ∧ (cSg (vw h) = a1 → ∀ h_14 : aH, wS h_14 → vw h_14 = up (vw h) 33 11 (w32 ((vw h 33 11) + 1)) → P 1 h_14))) : Pt (n + 1) X zM125 0 [some (.ref 33), some (.int x1), none] [] h (qI P) := by
  refine pt_1 (fun n d => r_aloadn gx125_0 rfl) ?_
  refine pt_d (pt_virt (as := []) (r := []) gx125_1 rfl (show zmt[124]? = some zM124 from rfl) rfl rfl rfl rfl (c_124 S) (kqP (fun v1 h1 => ?_)))
  show Pt _ _ _ 4 _ [.int v1] _ _
  refine pt_d (pt_1 (fun n d => r_iloadn gx125_4 rfl) ?_)
  refine pt_d (pt_icmp_ne gx125_5 h1 z1 (fun e2 => ?_) (fun e2 => ?_))
  · have H := H.1 e2
    refine pt_d (pt_iconst gx125_12 (fun v3 h3 => ?_))
    refine pt_d (pt_1 (fun n d => r_istoren (L' := [some (.ref 33), some (.int x1), some (.int v3)]) gx125_13 rfl rfl) ?_)
    refine pt_d (pt_1 (fun n d => r_aloadn gx125_14 rfl) ?_)
    refine pt_d (pt_1 (fun n d => r_dup gx125_15 rfl) ?_)
    refine pt_d (pt_getI (B := 11) gx125_16 S (fun v4 h4 => ?_))
    refine pt_d (pt_1 (fun n d => r_iloadn gx125_19 rfl) ?_)
    refine pt_d (pt_if_eq gx125_20 h3 (fun e5 => ?_) (fun e5 => absurd e5 (by decide)))
    refine pt_d (pt_iconst gx125_27 (fun v6 h6 => ?_))
    refine pt_d (pt_iadd gx125_28 h4 h6 (fun v7 h7 => ?_))
    refine pt_d (pt_putI (B := 11) gx125_29 S h7 (fun h_8 S8 e8 => ?_))
    refine pt_d (pt_1 (fun n d => r_iloadn gx125_32 rfl) ?_)
    have H := H h_8 S8 (by rw [e8])
    exact pt_d (pt_iret gx125_33 ⟨_, rfl, by rw [h3]; exact H⟩)
  · have H := H.2 e2
    refine pt_d (pt_iconst gx125_8 (fun v9 h9 => ?_))
    refine pt_d (pt_1 (fun n d => r_goto gx125_9) ?_)
    refine pt_d (pt_1 (fun n d => r_istoren (L' := [some (.ref 33), some (.int x1), some (.int v9)]) gx125_13 rfl rfl) ?_)
    refine pt_d (pt_1 (fun n d => r_aloadn gx125_14 rfl) ?_)
    refine pt_d (pt_1 (fun n d => r_dup gx125_15 rfl) ?_)
    refine pt_d (pt_getI (B := 11) gx125_16 S (fun v10 h10 => ?_))
    refine pt_d (pt_1 (fun n d => r_iloadn gx125_19 rfl) ?_)
    refine pt_d (pt_if_eq gx125_20 h9 (fun e11 => absurd e11 (by decide)) (fun e11 => ?_))
    refine pt_d (pt_iconst gx125_23 (fun v12 h12 => ?_))
    refine pt_d (pt_1 (fun n d => r_goto gx125_24) ?_)
    refine pt_d (pt_iadd gx125_28 h10 h12 (fun v13 h13 => ?_))
    refine pt_d (pt_putI (B := 11) gx125_29 S h13 (fun h_14 S14 e14 => ?_))
    refine pt_d (pt_1 (fun n d => r_iloadn gx125_32 rfl) ?_)
    have H := H h_14 S14 (by rw [e14])
    exact pt_d (pt_iret gx125_33 ⟨_, rfl, by rw [h9]; exact H⟩)
def R125 (V : vS) (c r : Int) (V' : vS) : Prop := (r = 0 ∧ V' = V ∧ (V 33 12 = -1 → cTx V (V 33 11) ≠ c)) ∨ (r = 1 ∧ (V 33 12 = -1 ∧ cTx V (V 33 11) = c ∧ V 33 11 < V 33 10) ∧ V' = up V 33 11 (V 33 11 + 1))
theorem c_125 {n : Nat} {X : aX} {h : aH} {x1 : Int32} {a1 : Int} (S : wS h) (z1 : x1.toInt = a1) (hp : tIn (vw h) ∧ 0 ≤ a1 ∧ a1 ≤ 127) : Pt n X zM125 0 [some (.ref 33), some (.int x1), none] [] h (qI (fun y h' => wS h' ∧ R125 (vw h) a1 y (vw h'))) := by
  obtain ⟨I, c0, c1⟩ := hp
  have b := I.1
  have b2 := I.2.1
  refine pt_d (d125_0 S z1 ⟨fun e g S2 eg => ⟨S2, Or.inl ⟨rfl, ?_, fun w z => e ((cSg_e I w c0 c1).mpr z)⟩⟩, fun e g S2 eg => ⟨S2, Or.inr ⟨rfl, ?_, ?_⟩⟩⟩)
  · rw [eg, w32_id (by omega) (by omega), Int.add_zero]
    exact up_id _ _ _
  · have e12 : vw h 33 12 = -1 := by
      rcases Int.lt_trichotomy (vw h 33 12) (-1) with w | w | w
      · rw [cSg_n (by omega)] at e; omega
      · exact w
      · rw [cSg_n (by omega)] at e; omega
    have z := (cSg_e I e12 c0 c1).mp e
    rcases cSg_t I e12 with ⟨k, _, _⟩ | ⟨_, _, k⟩
    · exact ⟨e12, z, k⟩
    · omega
  · rw [eg, w32_id (by omega) (by omega)]

theorem d127_0 {n : Nat} {X : aX} {h : aH} {P : Int → aH → Prop} {x0 : Int32} {a0 : Int} (S : wS h) (z0 : x0.toInt = a0) (H : ((a0 = 0 → P 0 h) ∧ (a0 ≠ 0 → P 1 h))) : Pt (n + 1) X zM127 0 [some (.int x0)] [] h (qI P) := by
  refine pt_1 (fun n d => r_iloadn gx127_0 rfl) ?_
  refine pt_d (pt_if_eq gx127_1 z0 (fun e1 => ?_) (fun e1 => ?_))
  · have H := H.1 e1
    refine pt_d (pt_iconst gx127_8 (fun v2 h2 => ?_))
    exact pt_d (pt_iret gx127_9 ⟨_, rfl, by rw [h2]; exact H⟩)
  · have H := H.2 e1
    refine pt_d (pt_iconst gx127_4 (fun v3 h3 => ?_))
    refine pt_d (pt_1 (fun n d => r_goto gx127_5) ?_)
    exact pt_d (pt_iret gx127_9 ⟨_, rfl, by rw [h3]; exact H⟩)
theorem c_127 {n : Nat} {X : aX} {h : aH} {x0 : Int32} {a0 : Int} (S : wS h) (z0 : x0.toInt = a0) : Pt n X zM127 0 [some (.int x0)] [] h (qI (fun y h' => h' = h ∧ y = (if (a0 : Int) = 0 then 0 else 1))) := by
  refine pt_d (d127_0 S z0 ?_)
  repeat' (first | (refine And.intro ?_ ?_) | intro _)
  all_goals first
    | rfl
    | (rw [if_pos (by omega)])
    | (rw [if_neg (by omega)])
    | omega
theorem d135_0 {n : Nat} {X : aX} {h : aH} {P : Int → aH → Prop} (S : wS h) (H : (∀ (w1 : Int32) (w2 : Int32), w1.toInt = 0 → w2.toInt = 0 → Pt n X zM135 4 [some (.ref 33), some (.int w1), some (.int w2)] [] h (qI P))) : Pt (n + 1) X zM135 0 [some (.ref 33), none, none] [] h (qI P) := by
  refine pt_iconst gx135_0 (fun v1 h1 => ?_)
  refine pt_d (pt_1 (fun n d => r_istoren (L' := [some (.ref 33), some (.int v1), none]) gx135_1 rfl rfl) ?_)
  refine pt_d (pt_iconst gx135_2 (fun v2 h2 => ?_))
  refine pt_d (pt_1 (fun n d => r_istoren (L' := [some (.ref 33), some (.int v1), some (.int v2)]) gx135_3 rfl rfl) ?_)
  exact H v1 v2 h1 h2
theorem d135_4 {n : Nat} {X : aX} {h : aH} {P : Int → aH → Prop} {x1 x2 : Int32} {a1 a2 : Int} (S : wS h) (z1 : x1.toInt = a1) (z2 : x2.toInt = a2) (H : ((6 ≤ a2 → P a1 h) ∧ (a2 < 6 → ((¬ (48 ≤ (cSg (vw h)) ∧ (cSg (vw h)) ≤ 57) → P a1 h) ∧ ((48 ≤ (cSg (vw h)) ∧ (cSg (vw h)) ≤ 57) → ∀ h_15 : aH, wS h_15 → vw h_15 = up (vw h) 33 11 (w32 ((vw h 33 11) + 1)) → (∀ (w1 : Int32) (w2 : Int32), w1.toInt = w32 ((w32 ((w32 (a1 * 10)) + (cSg (vw h)))) - 48) → w2.toInt = w32 (a2 + 1) → Pt n X zM135 4 [some (.ref 33), some (.int w1), some (.int w2)] [] h_15 (qI P))))))) : Pt (n + 1) X zM135 4 [some (.ref 33), some (.int x1), some (.int x2)] [] h (qI P) := by
  refine pt_1 (fun n d => r_iloadn gx135_4 rfl) ?_
  refine pt_d (pt_bipush gx135_5 (fun v1 h1 => ?_))
  refine pt_d (pt_icmp_ge gx135_7 z2 h1 (fun e2 => ?_) (fun e2 => ?_))
  · have H := H.1 e2
    refine pt_d (pt_1 (fun n d => r_iloadn gx135_49 rfl) ?_)
    exact pt_d (pt_iret gx135_50 ⟨_, rfl, by rw [z1]; exact H⟩)
  · have H := H.2 e2
    refine pt_d (pt_1 (fun n d => r_aloadn gx135_10 rfl) ?_)
    refine pt_d (pt_virt (as := []) (r := []) gx135_11 rfl (show zmt[124]? = some zM124 from rfl) rfl rfl rfl rfl (c_124 S) (kqP (fun v3 h3 => ?_)))
    show Pt _ _ _ 14 _ [.int v3] _ _
    refine pt_d (pt_stat (as := [.int v3]) (r := []) gx135_14 rfl (show zmt[134]? = some zM134 from rfl) rfl rfl rfl rfl (c_134 S h3) (kqP (fun v4 h4 => ?_)))
    show Pt _ _ _ 17 _ [.int v4] _ _
    refine pt_d (pt_ifB_eq gx135_17 h4 (fun e5 => ?_) (fun e5 => ?_))
    · have H := H.1 e5
      refine pt_d (pt_1 (fun n d => r_iloadn gx135_49 rfl) ?_)
      exact pt_d (pt_iret gx135_50 ⟨_, rfl, by rw [z1]; exact H⟩)
    · have H := H.2 e5
      refine pt_d (pt_1 (fun n d => r_iloadn gx135_20 rfl) ?_)
      refine pt_d (pt_bipush gx135_21 (fun v6 h6 => ?_))
      refine pt_d (pt_imul gx135_23 z1 h6 (fun v7 h7 => ?_))
      refine pt_d (pt_1 (fun n d => r_aloadn gx135_24 rfl) ?_)
      refine pt_d (pt_virt (as := []) (r := [.int v7]) gx135_25 rfl (show zmt[124]? = some zM124 from rfl) rfl rfl rfl rfl (c_124 S) (kqP (fun v8 h8 => ?_)))
      show Pt _ _ _ 28 _ [.int v8, .int v7] _ _
      refine pt_d (pt_iadd gx135_28 h7 h8 (fun v9 h9 => ?_))
      refine pt_d (pt_bipush gx135_29 (fun v10 h10 => ?_))
      refine pt_d (pt_isub gx135_31 h9 h10 (fun v11 h11 => ?_))
      refine pt_d (pt_1 (fun n d => r_istoren (L' := [some (.ref 33), some (.int v11), some (.int x2)]) gx135_32 rfl rfl) ?_)
      refine pt_d (pt_1 (fun n d => r_aloadn gx135_33 rfl) ?_)
      refine pt_d (pt_1 (fun n d => r_dup gx135_34 rfl) ?_)
      refine pt_d (pt_getI (B := 11) gx135_35 S (fun v12 h12 => ?_))
      refine pt_d (pt_iconst gx135_38 (fun v13 h13 => ?_))
      refine pt_d (pt_iadd gx135_39 h12 h13 (fun v14 h14 => ?_))
      refine pt_d (pt_putI (B := 11) gx135_40 S h14 (fun h_15 S15 e15 => ?_))
      refine pt_d (pt_iinc (c := 1) gx135_43 rfl z2 (fun v16 h16 => ?_))
      show Pt _ _ _ _ [some (.ref 33), some (.int v11), some (.int v16)] [] _ _
      refine pt_d (pt_1 (fun n d => r_goto gx135_46) ?_)
      have H := H h_15 S15 (by rw [e15])
      exact H v11 v16 h11 h16
theorem cT_u (V : vS) (a : Int) : cTx (up V 33 11 a) = cTx V := by
  funext p
  unfold cTx
  rw [up_j (c' := 33) (j' := 10) (by decide), up_j (c' := 33) (j' := 9) (by decide), up_c (c' := 35) (by decide)]
theorem cT_g (V : vS) (g : Int) : cTx (up V 33 12 g) = cTx V := by
  funext p
  unfold cTx
  rw [up_j (c' := 33) (j' := 10) (by decide), up_j (c' := 33) (j' := 9) (by decide), up_c (c' := 35) (by decide)]
theorem tI_u {V : vS} (I : tIn V) {a : Int} (h0 : 0 ≤ a) (h1 : a ≤ V 33 10) : tIn (up V 33 11 a) := by
  obtain ⟨i1, i2, i3, i4⟩ := I
  unfold tIn
  rw [up_s, up_j (by decide), up_j (by decide)]
  exact ⟨⟨h0, h1⟩, i2, i3, fun j j0 j1 => by rw [up_c (by decide)]; exact i4 j j0 j1⟩
theorem tI_g {V : vS} (I : tIn V) (g : Int) : tIn (up V 33 12 g) := by
  obtain ⟨i1, i2, i3, i4⟩ := I
  unfold tIn
  rw [up_j (by decide), up_j (by decide), up_j (by decide)]
  exact ⟨i1, i2, i3, fun j j0 j1 => by rw [up_c (by decide)]; exact i4 j j0 j1⟩
theorem cT_lt {V : vS} (I : tIn V) {p : Int} (h : cTx V p ≠ -1) : p < V 33 10 := by
  unfold cTx at h
  split at h
  · rename_i w; exact w.2
  · exact absurd rfl h
theorem l_135 {X : aX} : ∀ (n : Nat) (h : aH) (x1 x2 : Int32) (j : Nat), wS h → tIn (vw h) → vw h 33 12 = -1 → j ≤ 6 → x2.toInt = 6 - (j : Int) → Pt n X zM135 4 [some (.ref 33), some (.int x1), some (.int x2)] [] h (qI (fun _ h' => wS h' ∧ vw h' = up (vw h) 33 11 (dgEnd (cTx (vw h)) j (vw h 33 11)))) := by
  intro n
  induction n with
  | zero => exact fun _ _ _ _ _ _ _ _ _ => pt_z
  | succ n ih =>
    intro h x1 x2 j S I e12 hj h2
    have bI := I.1
    have bI2 := I.2.1
    refine d135_4 S rfl h2 ⟨fun e1 => ⟨S, ?_⟩, fun e1 => ⟨fun e2 => ⟨S, ?_⟩, fun e2 g S2 eg w1 w2 g1 g2 => ?_⟩⟩
    · obtain rfl : j = 0 := by omega
      exact (up_id _ _ _).symm
    · obtain ⟨i, rfl⟩ : ∃ i, j = i + 1 := ⟨j - 1, by omega⟩
      have z : isD (cTx (vw h) (vw h 33 11)) = false := by
        cases w : isD (cTx (vw h) (vw h 33 11)) with
        | false => rfl
        | true => exact absurd ((cSg_d I e12).mpr w) e2
      have e : dgEnd (cTx (vw h)) (i + 1) (vw h 33 11) = bif isD (cTx (vw h) (vw h 33 11)) then dgEnd (cTx (vw h)) i (vw h 33 11 + 1) else vw h 33 11 := rfl
      rw [e, z]
      exact (up_id _ _ _).symm
    · obtain ⟨i, rfl⟩ : ∃ i, j = i + 1 := ⟨j - 1, by omega⟩
      have z := (cSg_d I e12).mp e2
      have lt : vw h 33 11 < vw h 33 10 := cT_lt I (fun w => by rw [w] at z; cases z)
      have e : dgEnd (cTx (vw h)) (i + 1) (vw h 33 11) = bif isD (cTx (vw h) (vw h 33 11)) then dgEnd (cTx (vw h)) i (vw h 33 11 + 1) else vw h 33 11 := rfl
      rw [w32_id (by omega) (by omega)] at eg
      have I2 : tIn (vw g) := by rw [eg]; exact tI_u I (by omega) (by omega)
      have g12 : vw g 33 12 = -1 := by rw [eg, up_j (by decide)]; exact e12
      replace g2 := w_1 g2 (by omega) (by omega)
      refine pt_q (ih g w1 w2 i S2 I2 g12 (by omega) (by omega)) ?_
      rintro v h' ⟨x, ex, p1, p2⟩
      refine ⟨x, ex, p1, ?_⟩
      rw [p2, e, z, eg, cT_u, up_s, up_up]
      rfl
theorem dEnd_r {V : vS} (I : tIn V) : ∀ (k : Nat) (p : Int), 0 ≤ p → p ≤ V 33 10 → dgEnd (cTx V) k p ≤ V 33 10
  | 0, p, _, h => h
  | k + 1, p, h0, h => by
    have e : dgEnd (cTx V) (k + 1) p = bif isD (cTx V p) then dgEnd (cTx V) k (p + 1) else p := rfl
    rw [e]
    cases z : isD (cTx V p) with
    | true =>
      have lt : p < V 33 10 := cT_lt I (fun w => by rw [w] at z; cases z)
      exact dEnd_r I k (p + 1) (by omega) (by omega)
    | false => exact h
theorem c_135 {n : Nat} {X : aX} {h : aH} (S : wS h) (hp : tIn (vw h) ∧ vw h 33 12 = -1) : Pt n X zM135 0 [some (.ref 33), none, none] [] h (qI (fun _ h' => wS h' ∧ vw h' = up (vw h) 33 11 (dgEnd (cTx (vw h)) 6 (vw h 33 11)))) :=
  pt_d (d135_0 S (fun w1 w2 g1 g2 => l_135 n h w1 w2 6 S hp.1 hp.2 (Nat.le_refl _) g2))
-- what a part of the reading comes to, on the class's side
def cpre (V : vS) (o : Int) : Prop := tIn V ∧ V 33 12 = -1 ∧ 0 ≤ o ∧ o ≤ 8
def cRes (t : Nat) (o : Int) (V V' : vS) : Prop := ∃ q f a g : Int, Pr (cTx V) t o (V 33 11) q f ∧ V' = up (up V 33 11 a) 33 12 g ∧ V 33 11 ≤ a ∧ a ≤ V 33 10 ∧ ((f = -1 ∧ a = q ∧ g = -1) ∨ (0 ≤ f ∧ (g = f ∨ (g = -1 ∧ a = f ∧ isD (cTx V a) = true))))
def cLo (t : Nat) (o : Int) (V V' : vS) : Prop := (V 33 12 = -1 → cRes t o V V') ∧ (V 33 12 ≠ -1 → V' = V)
theorem cR_f {V V' : vS} {a g : Int} (e : V' = up (up V 33 11 a) 33 12 g) : cTx V' = cTx V ∧ V' 33 10 = V 33 10 ∧ V' 33 11 = a ∧ V' 33 12 = g := by
  subst e
  refine ⟨by rw [cT_g, cT_u], ?_, ?_, up_s _ _ _ _⟩
  · rw [up_j (by decide), up_j (by decide)]
  · rw [up_j (by decide), up_s]
theorem cR_c {V V1 V' : vS} {a g a2 g2 : Int} (e : V1 = up (up V 33 11 a) 33 12 g) (e2 : V' = up (up V1 33 11 a2) 33 12 g2) : V' = up (up V 33 11 a2) 33 12 g2 := by
  rw [e2, e, up_sw (up V 33 11 a) 33 (j := 12) (j' := 11) (by decide), up_up, up_up]
theorem cR_i {t : Nat} {o : Int} {V V' : vS} (I : tIn V) (c : cRes t o V V') : tIn V' ∧ V 33 11 ≤ V' 33 11 := by
  obtain ⟨q, f, a, g, -, e, b1, b2, -⟩ := c
  have := I.1
  refine ⟨by rw [e]; exact tI_g (tI_u I (by omega) b2) g, ?_⟩
  rw [(cR_f e).2.2.1]
  exact b1
theorem tk_0 {V V' : vS} {c y : Int} (k : R125 V c y V') (h : y = 0) : V' = V ∧ (V 33 12 = -1 → cTx V (V 33 11) ≠ c) := by
  rcases k with ⟨-, a, b⟩ | ⟨a, -⟩
  · exact ⟨a, b⟩
  · omega
theorem tk_1 {V V' : vS} {c y : Int} (k : R125 V c y V') (h : y ≠ 0) : (V 33 12 = -1 ∧ cTx V (V 33 11) = c ∧ V 33 11 < V 33 10) ∧ V' = up V 33 11 (V 33 11 + 1) := by
  rcases k with ⟨a, -⟩ | ⟨-, a, b⟩
  · omega
  · exact ⟨a, b⟩
theorem tk_i {V V' : vS} {c y : Int} (I : tIn V) (k : R125 V c y V') (h : y ≠ 0) : tIn V' ∧ V' 33 12 = -1 ∧ V' 33 11 = V 33 11 + 1 := by
  obtain ⟨⟨a1, a2, a3⟩, rfl⟩ := tk_1 k h
  have := I.1
  exact ⟨tI_u I (by omega) (by omega), by rw [up_j (by decide)]; exact a1, up_s _ _ _ _⟩
-- a digit is no sign
theorem opD {t : Nat} {x : Int} (h : isD x = true) : opB t x = false := by
  unfold isD at h
  have h := of_decide_eq_true h
  have b : ∀ c : Int, (c < 48 ∨ 57 < c) → (x == c) = false := fun c hc => beq_false_of_ne (by omega)
  unfold opB
  split <;> first | rfl | simp only [b 42 (by decide), b 47 (by decide), b 37 (by decide), b 43 (by decide), b 45 (by decide), b 38 (by decide), b 124 (by decide), b 60 (by decide), b 61 (by decide), b 62 (by decide), b 63 (by decide), b 59 (by decide), Bool.or_false]
theorem c_seq {t t1 t2 : Nat} (S : seqT t t1 t2) (lp : ∀ (T : Int → Int) (o p : Int), opB t2 (T p) = false → Pr T t2 o p p (-1)) {V V1 V' : vS} {o : Int} (c1 : cRes t1 o V V1) (c2 : cLo t2 o V1 V') : cRes t o V V' := by
  obtain ⟨q, f, a, g, p1, e1, b1, b2, d⟩ := c1
  obtain ⟨f1, f2, f3, f4⟩ := cR_f e1
  rcases d with ⟨rfl, rfl, rfl⟩ | ⟨d1, rfl | ⟨rfl, rfl, d2⟩⟩
  · obtain ⟨q2, g2, a2, k2, p2, e2, b3, b4, d2⟩ := c2.1 f4
    rw [f1, f3] at p2
    rw [f1] at d2
    exact ⟨q2, g2, a2, k2, sq_n S p1 p2, cR_c e1 e2, by omega, by omega, d2⟩
  · have := c2.2 (by omega)
    subst this
    exact ⟨q, g, a, g, sq_f S p1 d1, e1, b1, b2, Or.inr ⟨d1, Or.inl rfl⟩⟩
  · obtain ⟨q2, g2, a2, k2, p2, e2, b3, b4, d3⟩ := c2.1 f4
    rw [f1, f3] at p2
    obtain ⟨rfl, rfl⟩ := pr_u p2 (lp _ _ _ (opD d2))
    rcases d3 with ⟨-, rfl, rfl⟩ | ⟨d3, -⟩
    · exact ⟨q, a2, a2, -1, sq_f S p1 d1, cR_c e1 e2, b1, b2, Or.inr ⟨d1, Or.inr ⟨rfl, rfl, d2⟩⟩⟩
    · exact absurd d3 (by decide)
theorem c_out {t : Nat} (lp : ∀ (T : Int → Int) (o p : Int), opB t (T p) = false → Pr T t o p p (-1)) {V : vS} {o : Int} (I : tIn V) (h : V 33 12 = -1 → opB t (cTx V (V 33 11)) = false) : cLo t o V V := by
  refine ⟨fun e => ⟨_, _, V 33 11, -1, lp _ _ _ (h e), ?_, Int.le_refl _, I.1.2, Or.inl ⟨rfl, rfl, rfl⟩⟩, fun _ => rfl⟩
  rw [up_id, ← e, up_id]
theorem c_step {t t1 : Nat} (S : lopT t t1 t) {V V4 V1 V' : vS} {o c y : Int} (I : tIn V) (k : R125 V c y V4) (hy : y ≠ 0) (hc : opB t c = true) (c1 : cRes t1 o V4 V1) (c2 : cLo t o V1 V') : cLo t o V V' := by
  obtain ⟨⟨a1, a2, a3⟩, e4⟩ := tk_1 k hy
  refine ⟨fun _ => ?_, fun z => absurd a1 z⟩
  have hc : opB t (cTx V (V 33 11)) = true := by rw [a2]; exact hc
  obtain ⟨q, f, a, g, p1, e1, b1, b2, d⟩ := c1
  obtain ⟨f1, f2, f3, f4⟩ := cR_f e1
  have t4 : cTx V4 = cTx V := by rw [e4, cT_u]
  have v11 : V4 33 11 = V 33 11 + 1 := by rw [e4, up_s]
  have v10 : V4 33 10 = V 33 10 := by rw [e4, up_j (by decide)]
  have E : ∀ a g, up (up V4 33 11 a) 33 12 g = up (up V 33 11 a) 33 12 g := fun a g => by rw [e4, up_up]
  rw [t4, v11] at p1
  rw [t4] at d f1
  rw [E] at e1
  rcases d with ⟨rfl, rfl, rfl⟩ | ⟨d1, rfl | ⟨rfl, rfl, d2⟩⟩
  · obtain ⟨q2, g2, a2, k2, p2, e2, b3, b4, d2⟩ := c2.1 f4
    rw [f1, f3] at p2
    rw [f1] at d2
    exact ⟨q2, g2, a2, k2, lp_n S hc p1 p2, cR_c e1 e2, by omega, by omega, d2⟩
  · have := c2.2 (by omega)
    subst this
    exact ⟨q, g, a, g, lp_f S hc p1 d1, e1, by omega, by omega, Or.inr ⟨d1, Or.inl rfl⟩⟩
  · obtain ⟨q2, g2, a2, k2, p2, e2, b3, b4, d3⟩ := c2.1 f4
    rw [f1, f3] at p2
    obtain ⟨rfl, rfl⟩ := pr_u p2 (lp_e S (opD d2))
    rcases d3 with ⟨-, rfl, rfl⟩ | ⟨d3, -⟩
    · exact ⟨q, a2, a2, -1, lp_f S hc p1 d1, cR_c e1 e2, by omega, by omega, Or.inr ⟨d1, Or.inr ⟨rfl, rfl, d2⟩⟩⟩
    · exact absurd d3 (by decide)
theorem c_cho {t t1 : Nat} (S : chT t t1) {V V4 V' : vS} {o c y : Int} (k : R125 V c y V4) (hy : y ≠ 0) (hc : opB t c = true) (c1 : cRes t1 o V4 V') : cLo t o V V' := by
  obtain ⟨⟨a1, a2, a3⟩, e4⟩ := tk_1 k hy
  refine ⟨fun _ => ?_, fun z => absurd a1 z⟩
  have hc : opB t (cTx V (V 33 11)) = true := by rw [a2]; exact hc
  obtain ⟨q, f, a, g, p1, e1, b1, b2, d⟩ := c1
  have t4 : cTx V4 = cTx V := by rw [e4, cT_u]
  have v11 : V4 33 11 = V 33 11 + 1 := by rw [e4, up_s]
  have v10 : V4 33 10 = V 33 10 := by rw [e4, up_j (by decide)]
  rw [t4, v11] at p1
  rw [t4] at d
  rw [e4, up_up] at e1
  exact ⟨q, f, a, g, ch_y S hc p1, e1, by omega, by omega, d⟩
theorem at_end {V : vS} (I : tIn V) {i : Int} (h : 160 ≤ i) (h2 : i ≤ V 33 11) : cTx V (V 33 11) = -1 := by
  have := I.1
  have := I.2.1
  unfold cTx
  rw [if_neg (by omega)]


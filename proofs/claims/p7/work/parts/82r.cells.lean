-- ===== blank, close, worth on both sides =====
theorem f140_0 : aF 0 zM140.2.2.2.2.2.2.2 = some (0, (.iload_n 0), 1, 0, 0) := by decide +kernel
theorem f140_1 : aF 1 zM140.2.2.2.2.2.2.2 = some (1, (.iconst 0), 1, 0, 0) := by decide +kernel
theorem f140_2 : aF 2 zM140.2.2.2.2.2.2.2 = some (2, (.iconst 3), 1, 0, 0) := by decide +kernel
theorem f140_3 : aF 3 zM140.2.2.2.2.2.2.2 = some (3, (.invokestatic 85), 3, 137, 0) := by decide +kernel
theorem f140_6 : aF 6 zM140.2.2.2.2.2.2.2 = some (6, .ireturn, 1, 0, 0) := by decide +kernel
theorem f141_0 : aF 0 zM141.2.2.2.2.2.2.2 = some (0, (.iload_n 0), 1, 0, 0) := by decide +kernel
theorem f141_1 : aF 1 zM141.2.2.2.2.2.2.2 = some (1, (.iconst 0), 1, 0, 0) := by decide +kernel
theorem f141_2 : aF 2 zM141.2.2.2.2.2.2.2 = some (2, (.bipush 7), 2, 0, 0) := by decide +kernel
theorem f141_4 : aF 4 zM141.2.2.2.2.2.2.2 = some (4, (.invokestatic 85), 3, 137, 0) := by decide +kernel
theorem f141_7 : aF 7 zM141.2.2.2.2.2.2.2 = some (7, .ireturn, 1, 0, 0) := by decide +kernel
theorem f158_0 : aF 0 zM158.2.2.2.2.2.2.2 = some (0, (.iload_n 1), 1, 0, 0) := by decide +kernel
theorem f158_1 : aF 1 zM158.2.2.2.2.2.2.2 = some (1, (.invokestatic 89), 3, 140, 0) := by decide +kernel
theorem f158_4 : aF 4 zM158.2.2.2.2.2.2.2 = some (4, (.ifCond .eq 14), 3, 18, 0) := by decide +kernel
theorem f158_7 : aF 7 zM158.2.2.2.2.2.2.2 = some (7, (.iload_n 2), 1, 0, 0) := by decide +kernel
theorem f158_8 : aF 8 zM158.2.2.2.2.2.2.2 = some (8, (.iconst 0), 1, 0, 0) := by decide +kernel
theorem f158_9 : aF 9 zM158.2.2.2.2.2.2.2 = some (9, (.sipush 364), 3, 0, 0) := by decide +kernel
theorem f158_12 : aF 12 zM158.2.2.2.2.2.2.2 = some (12, (.invokestatic 85), 3, 137, 0) := by decide +kernel
theorem f158_15 : aF 15 zM158.2.2.2.2.2.2.2 = some (15, (.ifCond .ne 5), 3, 20, 0) := by decide +kernel
theorem f158_18 : aF 18 zM158.2.2.2.2.2.2.2 = some (18, (.iconst (-1)), 1, 0, 0) := by decide +kernel
theorem f158_19 : aF 19 zM158.2.2.2.2.2.2.2 = some (19, .ireturn, 1, 0, 0) := by decide +kernel
theorem f158_20 : aF 20 zM158.2.2.2.2.2.2.2 = some (20, (.aload_n 0), 1, 0, 0) := by decide +kernel
theorem f158_21 : aF 21 zM158.2.2.2.2.2.2.2 = some (21, (.getfield 28), 3, 11, 2) := by decide +kernel
theorem f158_24 : aF 24 zM158.2.2.2.2.2.2.2 = some (24, (.getfield 178), 3, 2, 9) := by decide +kernel
theorem f158_27 : aF 27 zM158.2.2.2.2.2.2.2 = some (27, (.iload_n 1), 1, 0, 0) := by decide +kernel
theorem f158_28 : aF 28 zM158.2.2.2.2.2.2.2 = some (28, .iaload, 1, 0, 0) := by decide +kernel
theorem f158_29 : aF 29 zM158.2.2.2.2.2.2.2 = some (29, (.istore_n 3), 1, 0, 0) := by decide +kernel
theorem f158_30 : aF 30 zM158.2.2.2.2.2.2.2 = some (30, (.aload_n 0), 1, 0, 0) := by decide +kernel
theorem f158_31 : aF 31 zM158.2.2.2.2.2.2.2 = some (31, (.getfield 28), 3, 11, 2) := by decide +kernel
theorem f158_34 : aF 34 zM158.2.2.2.2.2.2.2 = some (34, (.getfield 178), 3, 2, 9) := by decide +kernel
theorem f158_37 : aF 37 zM158.2.2.2.2.2.2.2 = some (37, (.iload_n 1), 1, 0, 0) := by decide +kernel
theorem f158_38 : aF 38 zM158.2.2.2.2.2.2.2 = some (38, (.iload_n 2), 1, 0, 0) := by decide +kernel
theorem f158_39 : aF 39 zM158.2.2.2.2.2.2.2 = some (39, .iastore, 1, 0, 0) := by decide +kernel
theorem f158_40 : aF 40 zM158.2.2.2.2.2.2.2 = some (40, (.iload_n 3), 1, 0, 0) := by decide +kernel
theorem f158_41 : aF 41 zM158.2.2.2.2.2.2.2 = some (41, .ireturn, 1, 0, 0) := by decide +kernel
theorem f165_0 : aF 0 zM165.2.2.2.2.2.2.2 = some (0, (.aload_n 0), 1, 0, 0) := by decide +kernel
theorem f165_1 : aF 1 zM165.2.2.2.2.2.2.2 = some (1, (.getfield 67), 3, 11, 7) := by decide +kernel
theorem f165_4 : aF 4 zM165.2.2.2.2.2.2.2 = some (4, (.getfield 245), 3, 3, 1) := by decide +kernel
theorem f165_7 : aF 7 zM165.2.2.2.2.2.2.2 = some (7, (.istore_n 2), 1, 0, 0) := by decide +kernel
theorem f165_8 : aF 8 zM165.2.2.2.2.2.2.2 = some (8, (.aload_n 0), 1, 0, 0) := by decide +kernel
theorem f165_9 : aF 9 zM165.2.2.2.2.2.2.2 = some (9, (.getfield 67), 3, 11, 7) := by decide +kernel
theorem f165_12 : aF 12 zM165.2.2.2.2.2.2.2 = some (12, (.iload_n 1), 1, 0, 0) := by decide +kernel
theorem f165_13 : aF 13 zM165.2.2.2.2.2.2.2 = some (13, (.putfield 245), 3, 3, 1) := by decide +kernel
theorem f165_16 : aF 16 zM165.2.2.2.2.2.2.2 = some (16, (.iload_n 2), 1, 0, 0) := by decide +kernel
theorem f165_17 : aF 17 zM165.2.2.2.2.2.2.2 = some (17, .ireturn, 1, 0, 0) := by decide +kernel
theorem f182_0 : aF 0 zM182.2.2.2.2.2.2.2 = some (0, (.iload_n 1), 1, 0, 0) := by decide +kernel
theorem f182_1 : aF 1 zM182.2.2.2.2.2.2.2 = some (1, (.invokestatic 173), 3, 141, 0) := by decide +kernel
theorem f182_4 : aF 4 zM182.2.2.2.2.2.2.2 = some (4, (.ifCond .eq 13), 3, 17, 0) := by decide +kernel
theorem f182_7 : aF 7 zM182.2.2.2.2.2.2.2 = some (7, (.iload_n 2), 1, 0, 0) := by decide +kernel
theorem f182_8 : aF 8 zM182.2.2.2.2.2.2.2 = some (8, (.iconst 0), 1, 0, 0) := by decide +kernel
theorem f182_9 : aF 9 zM182.2.2.2.2.2.2.2 = some (9, (.bipush 99), 2, 0, 0) := by decide +kernel
theorem f182_11 : aF 11 zM182.2.2.2.2.2.2.2 = some (11, (.invokestatic 85), 3, 137, 0) := by decide +kernel
theorem f182_14 : aF 14 zM182.2.2.2.2.2.2.2 = some (14, (.ifCond .ne 5), 3, 19, 0) := by decide +kernel
theorem f182_17 : aF 17 zM182.2.2.2.2.2.2.2 = some (17, (.iconst (-1)), 1, 0, 0) := by decide +kernel
theorem f182_18 : aF 18 zM182.2.2.2.2.2.2.2 = some (18, .ireturn, 1, 0, 0) := by decide +kernel
theorem f182_19 : aF 19 zM182.2.2.2.2.2.2.2 = some (19, (.aload_n 0), 1, 0, 0) := by decide +kernel
theorem f182_20 : aF 20 zM182.2.2.2.2.2.2.2 = some (20, (.getfield 60), 3, 11, 6) := by decide +kernel
theorem f182_23 : aF 23 zM182.2.2.2.2.2.2.2 = some (23, (.getfield 330), 3, 4, 2) := by decide +kernel
theorem f182_26 : aF 26 zM182.2.2.2.2.2.2.2 = some (26, (.iload_n 1), 1, 0, 0) := by decide +kernel
theorem f182_27 : aF 27 zM182.2.2.2.2.2.2.2 = some (27, .iaload, 1, 0, 0) := by decide +kernel
theorem f182_28 : aF 28 zM182.2.2.2.2.2.2.2 = some (28, (.istore_n 3), 1, 0, 0) := by decide +kernel
theorem f182_29 : aF 29 zM182.2.2.2.2.2.2.2 = some (29, (.aload_n 0), 1, 0, 0) := by decide +kernel
theorem f182_30 : aF 30 zM182.2.2.2.2.2.2.2 = some (30, (.getfield 60), 3, 11, 6) := by decide +kernel
theorem f182_33 : aF 33 zM182.2.2.2.2.2.2.2 = some (33, (.getfield 330), 3, 4, 2) := by decide +kernel
theorem f182_36 : aF 36 zM182.2.2.2.2.2.2.2 = some (36, (.iload_n 1), 1, 0, 0) := by decide +kernel
theorem f182_37 : aF 37 zM182.2.2.2.2.2.2.2 = some (37, (.iload_n 2), 1, 0, 0) := by decide +kernel
theorem f182_38 : aF 38 zM182.2.2.2.2.2.2.2 = some (38, .iastore, 1, 0, 0) := by decide +kernel
theorem f182_39 : aF 39 zM182.2.2.2.2.2.2.2 = some (39, (.iload_n 3), 1, 0, 0) := by decide +kernel
theorem f182_40 : aF 40 zM182.2.2.2.2.2.2.2 = some (40, .ireturn, 1, 0, 0) := by decide +kernel
theorem f231_0 : aF 0 zM231.2.2.2.2.2.2.2 = some (0, (.iload_n 1), 1, 0, 0) := by decide +kernel
theorem f231_1 : aF 1 zM231.2.2.2.2.2.2.2 = some (1, (.invokestatic 280), 3, 206, 0) := by decide +kernel
theorem f231_4 : aF 4 zM231.2.2.2.2.2.2.2 = some (4, (.ifCond .eq 14), 3, 18, 0) := by decide +kernel
theorem f231_7 : aF 7 zM231.2.2.2.2.2.2.2 = some (7, (.iload_n 2), 1, 0, 0) := by decide +kernel
theorem f231_8 : aF 8 zM231.2.2.2.2.2.2.2 = some (8, (.iconst 0), 1, 0, 0) := by decide +kernel
theorem f231_9 : aF 9 zM231.2.2.2.2.2.2.2 = some (9, (.sipush 364), 3, 0, 0) := by decide +kernel
theorem f231_12 : aF 12 zM231.2.2.2.2.2.2.2 = some (12, (.invokestatic 258), 3, 196, 0) := by decide +kernel
theorem f231_15 : aF 15 zM231.2.2.2.2.2.2.2 = some (15, (.ifCond .ne 5), 3, 20, 0) := by decide +kernel
theorem f231_18 : aF 18 zM231.2.2.2.2.2.2.2 = some (18, (.iconst (-1)), 1, 0, 0) := by decide +kernel
theorem f231_19 : aF 19 zM231.2.2.2.2.2.2.2 = some (19, .ireturn, 1, 0, 0) := by decide +kernel
theorem f231_20 : aF 20 zM231.2.2.2.2.2.2.2 = some (20, (.aload_n 0), 1, 0, 0) := by decide +kernel
theorem f231_21 : aF 21 zM231.2.2.2.2.2.2.2 = some (21, (.getfield 64), 3, 12, 24) := by decide +kernel
theorem f231_24 : aF 24 zM231.2.2.2.2.2.2.2 = some (24, (.iload_n 1), 1, 0, 0) := by decide +kernel
theorem f231_25 : aF 25 zM231.2.2.2.2.2.2.2 = some (25, .iaload, 1, 0, 0) := by decide +kernel
theorem f231_26 : aF 26 zM231.2.2.2.2.2.2.2 = some (26, (.istore_n 3), 1, 0, 0) := by decide +kernel
theorem f231_27 : aF 27 zM231.2.2.2.2.2.2.2 = some (27, (.aload_n 0), 1, 0, 0) := by decide +kernel
theorem f231_28 : aF 28 zM231.2.2.2.2.2.2.2 = some (28, (.getfield 64), 3, 12, 24) := by decide +kernel
theorem f231_31 : aF 31 zM231.2.2.2.2.2.2.2 = some (31, (.iload_n 1), 1, 0, 0) := by decide +kernel
theorem f231_32 : aF 32 zM231.2.2.2.2.2.2.2 = some (32, (.iload_n 2), 1, 0, 0) := by decide +kernel
theorem f231_33 : aF 33 zM231.2.2.2.2.2.2.2 = some (33, .iastore, 1, 0, 0) := by decide +kernel
theorem f231_34 : aF 34 zM231.2.2.2.2.2.2.2 = some (34, (.iload_n 3), 1, 0, 0) := by decide +kernel
theorem f231_35 : aF 35 zM231.2.2.2.2.2.2.2 = some (35, .ireturn, 1, 0, 0) := by decide +kernel
theorem f246_0 : aF 0 zM246.2.2.2.2.2.2.2 = some (0, (.aload_n 0), 1, 0, 0) := by decide +kernel
theorem f246_1 : aF 1 zM246.2.2.2.2.2.2.2 = some (1, (.getfield 145), 3, 12, 52) := by decide +kernel
theorem f246_4 : aF 4 zM246.2.2.2.2.2.2.2 = some (4, (.istore_n 2), 1, 0, 0) := by decide +kernel
theorem f246_5 : aF 5 zM246.2.2.2.2.2.2.2 = some (5, (.aload_n 0), 1, 0, 0) := by decide +kernel
theorem f246_6 : aF 6 zM246.2.2.2.2.2.2.2 = some (6, (.iload_n 1), 1, 0, 0) := by decide +kernel
theorem f246_7 : aF 7 zM246.2.2.2.2.2.2.2 = some (7, (.putfield 145), 3, 12, 52) := by decide +kernel
theorem f246_10 : aF 10 zM246.2.2.2.2.2.2.2 = some (10, (.iload_n 2), 1, 0, 0) := by decide +kernel
theorem f246_11 : aF 11 zM246.2.2.2.2.2.2.2 = some (11, .ireturn, 1, 0, 0) := by decide +kernel
theorem f300_0 : aF 0 zM300.2.2.2.2.2.2.2 = some (0, (.iload_n 1), 1, 0, 0) := by decide +kernel
theorem f300_1 : aF 1 zM300.2.2.2.2.2.2.2 = some (1, (.iconst 0), 1, 0, 0) := by decide +kernel
theorem f300_2 : aF 2 zM300.2.2.2.2.2.2.2 = some (2, (.bipush 7), 2, 0, 0) := by decide +kernel
theorem f300_4 : aF 4 zM300.2.2.2.2.2.2.2 = some (4, (.invokestatic 258), 3, 196, 0) := by decide +kernel
theorem f300_7 : aF 7 zM300.2.2.2.2.2.2.2 = some (7, (.ifCond .eq 13), 3, 20, 0) := by decide +kernel
theorem f300_10 : aF 10 zM300.2.2.2.2.2.2.2 = some (10, (.iload_n 2), 1, 0, 0) := by decide +kernel
theorem f300_11 : aF 11 zM300.2.2.2.2.2.2.2 = some (11, (.iconst 0), 1, 0, 0) := by decide +kernel
theorem f300_12 : aF 12 zM300.2.2.2.2.2.2.2 = some (12, (.bipush 99), 2, 0, 0) := by decide +kernel
theorem f300_14 : aF 14 zM300.2.2.2.2.2.2.2 = some (14, (.invokestatic 258), 3, 196, 0) := by decide +kernel
theorem f300_17 : aF 17 zM300.2.2.2.2.2.2.2 = some (17, (.ifCond .ne 5), 3, 22, 0) := by decide +kernel
theorem f300_20 : aF 20 zM300.2.2.2.2.2.2.2 = some (20, (.iconst (-1)), 1, 0, 0) := by decide +kernel
theorem f300_21 : aF 21 zM300.2.2.2.2.2.2.2 = some (21, .ireturn, 1, 0, 0) := by decide +kernel
theorem f300_22 : aF 22 zM300.2.2.2.2.2.2.2 = some (22, (.aload_n 0), 1, 0, 0) := by decide +kernel
theorem f300_23 : aF 23 zM300.2.2.2.2.2.2.2 = some (23, (.getfield 225), 3, 12, 89) := by decide +kernel
theorem f300_26 : aF 26 zM300.2.2.2.2.2.2.2 = some (26, (.iload_n 1), 1, 0, 0) := by decide +kernel
theorem f300_27 : aF 27 zM300.2.2.2.2.2.2.2 = some (27, .iaload, 1, 0, 0) := by decide +kernel
theorem f300_28 : aF 28 zM300.2.2.2.2.2.2.2 = some (28, (.istore_n 3), 1, 0, 0) := by decide +kernel
theorem f300_29 : aF 29 zM300.2.2.2.2.2.2.2 = some (29, (.aload_n 0), 1, 0, 0) := by decide +kernel
theorem f300_30 : aF 30 zM300.2.2.2.2.2.2.2 = some (30, (.getfield 225), 3, 12, 89) := by decide +kernel
theorem f300_33 : aF 33 zM300.2.2.2.2.2.2.2 = some (33, (.iload_n 1), 1, 0, 0) := by decide +kernel
theorem f300_34 : aF 34 zM300.2.2.2.2.2.2.2 = some (34, (.iload_n 2), 1, 0, 0) := by decide +kernel
theorem f300_35 : aF 35 zM300.2.2.2.2.2.2.2 = some (35, .iastore, 1, 0, 0) := by decide +kernel
theorem f300_36 : aF 36 zM300.2.2.2.2.2.2.2 = some (36, (.iload_n 3), 1, 0, 0) := by decide +kernel
theorem f300_37 : aF 37 zM300.2.2.2.2.2.2.2 = some (37, .ireturn, 1, 0, 0) := by decide +kernel
theorem rpost_c {σ : List Nat} {h : aH} {v : Option Value} {z : Int} {Ps : List cT} (hP : ∃ P, P ∈ Ps ∧ dPost P σ h v) (e : Ps = [([], [(1, 0, z)], ([(0, 0)], [], [], [], [], [], []))]) : ∃ x : Int32, v = some (.int x) ∧ x.toInt = z := by
  subst e
  obtain ⟨P, hm, ρ, rh, k, s⟩ := hP
  cases List.mem_singleton.mp hm
  cases v with
  | none => exact s.elim
  | some v =>
    obtain ⟨⟨x, y, rfl, e1, e2⟩, -⟩ := s
    have e3 := k.1.2.1
    dsimp only at e1 e2 e3
    cases e1.symm.trans e3
    exact ⟨x, rfl, by omega⟩
/-- two int fields, one of each side, that agree -/
def JF (r ci f r' ci' f' : Nat) (h : aH) : Prop := ∃ (fs fs' : List Value) (v : Int32), h.1[r]? = some (.inr (ci, fs)) ∧ fs[f]? = some (.int v) ∧ h.1[r']? = some (.inr (ci', fs')) ∧ fs'[f']? = some (.int v)
theorem JF_dG {r ci f r' ci' f' : Nat} {σ σ' : List Nat} {h h' : aH} {W : List (Nat × Nat)} (J : JF r ci f r' ci' f' h) (I : dI σ h) (G : dG W σ h σ' h') (hr : (decide (r < 146) && decide (r' < 146) && !(cWn W r f) && !(cWn W r' f')) = true) : JF r ci f r' ci' f' h' := by
  simp only [Bool.and_eq_true, Bool.not_eq_true', decide_eq_true_eq] at hr
  obtain ⟨⟨⟨k1, k2⟩, k3⟩, k4⟩ := hr
  obtain ⟨fs, fs', v, c1, a1, c2, a2⟩ := J
  obtain ⟨gs, d1, e1⟩ := dG_o I.1 G c1 k1
  obtain ⟨gs', d2, e2⟩ := dG_o I.1 G c2 k2
  exact ⟨gs, gs', v, d1, (e1 f k3).trans a1, d2, (e2 f' k4).trans a2⟩
/-- two rows of ints, one of each side, that agree -/
def JA (r r' n : Nat) (h : aH) : Prop := ∃ g g' : Nat → Int32, h.1[r]? = some (.inl (0, n, .inl g)) ∧ h.1[r']? = some (.inl (0, n, .inl g')) ∧ ∀ j, j < n → g j = g' j
theorem JA_dG {r r' n : Nat} {σ σ' : List Nat} {h h' : aH} {W : List (Nat × Nat)} (J : JA r r' n h) (I : dI σ h) (G : dG W σ h σ' h') (hr : (decide (r < 146) && decide (r' < 146) && !(cWn W r 0) && !(cWn W r' 0)) = true) : JA r r' n h' := by
  simp only [Bool.and_eq_true, Bool.not_eq_true', decide_eq_true_eq] at hr
  obtain ⟨⟨⟨k1, k2⟩, k3⟩, k4⟩ := hr
  obtain ⟨g, g', c1, c2, e⟩ := J
  exact ⟨g, g', dG_a I.1 G c1 k1 k3, dG_a I.1 G c2 k2 k4, e⟩
/-- a row's place read and written, both numbers in their bounds -/
def clf (n m : Nat) (x y : Int32) (g : Nat → Int32) (r : Int32) (g' : Nat → Int32) : Prop := ((0 ≤ x.toInt ∧ x.toInt < (n : Int) ∧ 0 ≤ y.toInt ∧ y.toInt ≤ (m : Int)) ∧ r = g x.toInt.toNat ∧ g' = upd g x.toInt.toNat y) ∨ (¬ (0 ≤ x.toInt ∧ x.toInt < (n : Int) ∧ 0 ≤ y.toInt ∧ y.toInt ≤ (m : Int)) ∧ r.toInt = -1 ∧ g' = g)
theorem clf_eq {n m : Nat} {x y r1 r2 : Int32} {g1 g1' g2 g2' : Nat → Int32} (h1 : clf n m x y g1 r1 g1') (h2 : clf n m x y g2 r2 g2') (e : ∀ j, j < n → g1 j = g2 j) : r1.toInt = r2.toInt ∧ ∀ j, j < n → g1' j = g2' j := by
  unfold clf at h1 h2
  rcases h1 with ⟨a, b, c⟩ | ⟨a, b, c⟩ <;> rcases h2 with ⟨a', b', c'⟩ | ⟨a', b', c'⟩
  · subst b b' c c'
    refine ⟨by rw [e _ (by omega)], fun j hj => ?_⟩
    unfold upd
    rw [e j hj]
  · exact absurd a a'
  · exact absurd a' a
  · subst c c'
    exact ⟨by omega, e⟩
theorem blank_165 {X : aX} {σ : List Nat} {h : aH} {x t : Int32} {fs : List Value} (I : dI σ h) (c : h.1[63]? = some (.inr (3, fs))) (F : fs[1]? = some (.int t)) : Wp X 0 zM165 (fun v h' => dI σ h' ∧ dG [(63, 1)] σ h σ h' ∧ ∃ fs' : List Value, v = some (.int t) ∧ h'.1[63]? = some (.inr (3, fs')) ∧ fs'[1]? = some (.int x)) 0 [some (.ref 0), some (.int x), none] [] h := by
  refine wp1 (fun n d => r_aloadn f165_0 rfl) ?_
  obtain ⟨fs1001, c1001⟩ := hI_o I (r := 0) (ci := 11) (by decide +kernel)
  have F1002 := hI_r I c1001 (f := 7) (q := 63) (by decide +kernel)
  refine w_get f165_1 c1001 F1002 ?_
  refine w_get f165_4 c F ?_
  refine wp1 (fun n d => r_istoren (L' := [some (.ref 0), some (.int x), some (.int t)]) f165_7 rfl rfl) ?_
  refine wp1 (fun n d => r_aloadn f165_8 rfl) ?_
  refine w_get f165_9 c1001 F1002 ?_
  refine wp1 (fun n d => r_iloadn f165_12 rfl) ?_
  refine w_putI f165_13 c I (W := [(63, 1)]) (lo := (-2147483648)) (hi := 2147483647) (by decide +kernel) (by decide) (by decide) (iR x).1 (iR x).2 (by decide) (by first | rfl | (simp [aok, zY])) (fun h1003 fs1003 I1003 G1003 c1003 Fx1003 nf1003 ne1003 => ?_)
  have c1004 := (ne1003 0 (by decide)).trans c1001
  refine wp1 (fun n d => r_iloadn f165_16 rfl) ?_
  exact wp_end (fun n d => r_ireturn f165_17 rfl) ⟨I1003, G1003, _, rfl, c1003, Fx1003⟩
theorem blank_246 {X : aX} {σ : List Nat} {h : aH} {x t : Int32} {fs : List Value} (I : dI σ h) (c : h.1[72]? = some (.inr (12, fs))) (F : fs[52]? = some (.int t)) : Wp X 0 zM246 (fun v h' => dI σ h' ∧ dG [(72, 52)] σ h σ h' ∧ ∃ fs' : List Value, v = some (.int t) ∧ h'.1[72]? = some (.inr (12, fs')) ∧ fs'[52]? = some (.int x)) 0 [some (.ref 72), some (.int x), none] [] h := by
  refine wp1 (fun n d => r_aloadn f246_0 rfl) ?_
  refine w_get f246_1 c F ?_
  refine wp1 (fun n d => r_istoren (L' := [some (.ref 72), some (.int x), some (.int t)]) f246_4 rfl rfl) ?_
  refine wp1 (fun n d => r_aloadn f246_5 rfl) ?_
  refine wp1 (fun n d => r_iloadn f246_6 rfl) ?_
  refine w_putI f246_7 c I (W := [(72, 52)]) (lo := (-2147483648)) (hi := 2147483647) (by decide +kernel) (by decide) (by decide) (iR x).1 (iR x).2 (by decide) (by first | rfl | (simp [aok, zY])) (fun h1001 fs1001 I1001 G1001 c1001 Fx1001 nf1001 ne1001 => ?_)
  refine wp1 (fun n d => r_iloadn f246_10 rfl) ?_
  exact wp_end (fun n d => r_ireturn f246_11 rfl) ⟨I1001, G1001, _, rfl, c1001, Fx1001⟩
theorem rng_140 {X : aX} {h : aH} {x : Int32} : Wp X 1 zM140 (fun v h' => h = h' ∧ ∃ r : Int32, v = some (.int r) ∧ (r.toInt = 0 ∨ r.toInt = 1) ∧ (r.toInt = 1 ↔ 0 ≤ x.toInt ∧ x.toInt ≤ 3)) 0 [some (.int x)] [] h := by
  refine wp1 (fun n d => r_iloadn f140_0 rfl) ?_
  refine w_iconst f140_1 (fun v1 hv1 => ?_)
  refine w_iconst f140_2 (fun v2 hv2 => ?_)
  refine wp_in (lv := 0) (Y := zM137) (within_wp) (fun n d v h' e => r_stat (as := [.int x, .int v1, .int v2]) (r := []) f140_3 rfl (show zmt[137]? = some zM137 from rfl) rfl rfl rfl rfl rfl rfl e) (by first | decide | omega) ?_
  rintro v h' ⟨rfl, v3, rfl, z, hr⟩
  show Wp _ _ _ _ 6 [some (.int x)] [.int v3] _
  exact wp_end (fun n d => r_zreturn f140_6 rfl (z.elim (fun q => Or.inl (b_i.mpr q)) (fun q => Or.inr (b_i.mpr q)))) ⟨rfl, _, rfl, z, ⟨fun e => by have := hr.mp e; omega, fun e => hr.mpr ⟨by omega, by omega⟩⟩⟩
theorem rng_206 {X : aX} {h : aH} {x : Int32} : Wp X 1 zM206 (fun v h' => h = h' ∧ ∃ r : Int32, v = some (.int r) ∧ (r.toInt = 0 ∨ r.toInt = 1) ∧ (r.toInt = 1 ↔ 0 ≤ x.toInt ∧ x.toInt ≤ 3)) 0 [some (.int x)] [] h := by
  refine wp1 (fun n d => r_iloadn f206_0 rfl) ?_
  refine w_iconst f206_1 (fun v1 hv1 => ?_)
  refine w_iconst f206_2 (fun v2 hv2 => ?_)
  refine wp_in (lv := 0) (Y := zM196) (inx_wp) (fun n d v h' e => r_stat (as := [.int x, .int v1, .int v2]) (r := []) f206_3 rfl (show zmt[196]? = some zM196 from rfl) rfl rfl rfl rfl rfl rfl e) (by first | decide | omega) ?_
  rintro v h' ⟨rfl, v3, rfl, z, hr⟩
  show Wp _ _ _ _ 6 [some (.int x)] [.int v3] _
  exact wp_end (fun n d => r_zreturn f206_6 rfl (z.elim (fun q => Or.inl (b_i.mpr q)) (fun q => Or.inr (b_i.mpr q)))) ⟨rfl, _, rfl, z, ⟨fun e => by have := hr.mp e; omega, fun e => hr.mpr ⟨by omega, by omega⟩⟩⟩
theorem rng_141 {X : aX} {h : aH} {x : Int32} : Wp X 1 zM141 (fun v h' => h = h' ∧ ∃ r : Int32, v = some (.int r) ∧ (r.toInt = 0 ∨ r.toInt = 1) ∧ (r.toInt = 1 ↔ 0 ≤ x.toInt ∧ x.toInt ≤ 7)) 0 [some (.int x)] [] h := by
  refine wp1 (fun n d => r_iloadn f141_0 rfl) ?_
  refine w_iconst f141_1 (fun v1 hv1 => ?_)
  refine w_bipush f141_2 (fun v2 hv2 => ?_)
  refine wp_in (lv := 0) (Y := zM137) (within_wp) (fun n d v h' e => r_stat (as := [.int x, .int v1, .int v2]) (r := []) f141_4 rfl (show zmt[137]? = some zM137 from rfl) rfl rfl rfl rfl rfl rfl e) (by first | decide | omega) ?_
  rintro v h' ⟨rfl, v4, rfl, z, hr⟩
  show Wp _ _ _ _ 7 [some (.int x)] [.int v4] _
  exact wp_end (fun n d => r_zreturn f141_7 rfl (z.elim (fun q => Or.inl (b_i.mpr q)) (fun q => Or.inr (b_i.mpr q)))) ⟨rfl, _, rfl, z, ⟨fun e => by have := hr.mp e; omega, fun e => hr.mpr ⟨by omega, by omega⟩⟩⟩
theorem cell_158 {X : aX} {σ : List Nat} {h : aH} {x y : Int32} {g : Nat → Int32} (I : dI σ h) (c : h.1[22]? = some (.inl (0, 4, .inl g))) : Wp X 2 zM158 (fun v h' => dI σ h' ∧ dG [(22, 0)] σ h σ h' ∧ ∃ (r : Int32) (g' : Nat → Int32), v = some (.int r) ∧ h'.1[22]? = some (.inl (0, 4, .inl g')) ∧ clf 4 364 x y g r g') 0 [some (.ref 0), some (.int x), some (.int y), none] [] h := by
  have kb : ¬ (0 ≤ x.toInt ∧ x.toInt < ((4 : Nat) : Int) ∧ 0 ≤ y.toInt ∧ y.toInt ≤ ((364 : Nat) : Int)) → Wp X 2 zM158 (fun v h' => dI σ h' ∧ dG [(22, 0)] σ h σ h' ∧ ∃ (r : Int32) (g' : Nat → Int32), v = some (.int r) ∧ h'.1[22]? = some (.inl (0, 4, .inl g')) ∧ clf 4 364 x y g r g') 18 [some (.ref 0), some (.int x), some (.int y), none] [] h := fun q => w_iconst f158_18 (fun v hv => wp_end (fun n d => r_ireturn f158_19 rfl) ⟨I, dG_refl _ _ _, v, g, rfl, c, Or.inr ⟨q, hv, rfl⟩⟩)
  refine wp1 (fun n d => r_iloadn f158_0 rfl) ?_
  refine wp_in (lv := 1) (Y := zM140) (rng_140) (fun n d v h' e => r_stat (as := [.int x]) (r := []) f158_1 rfl (show zmt[140]? = some zM140 from rfl) rfl rfl rfl rfl rfl rfl e) (by first | decide | omega) ?_
  rintro v h' ⟨rfl, v1, rfl, z1, hr1⟩
  show Wp _ _ _ _ 4 [some (.ref 0), some (.int x), some (.int y), none] [.int v1] _
  refine w_if_eq f158_4 (fun q => kb (by omega)) (fun q1 => ?_)
  refine wp1 (fun n d => r_iloadn f158_7 rfl) ?_
  refine w_iconst f158_8 (fun v8 hv8 => ?_)
  refine w_sipush f158_9 (fun v9 hv9 => ?_)
  refine wp_in (lv := 0) (Y := zM137) (within_wp) (fun n d v h' e => r_stat (as := [.int y, .int v8, .int v9]) (r := []) f158_12 rfl (show zmt[137]? = some zM137 from rfl) rfl rfl rfl rfl rfl rfl e) (by first | decide | omega) ?_
  rintro v h' ⟨rfl, v12, rfl, z2, hr2⟩
  show Wp _ _ _ _ 15 [some (.ref 0), some (.int x), some (.int y), none] [.int v12] _
  refine w_if_ne f158_15 (fun q2 => ?_) (fun q => kb (by omega))
  have w1 := hr1.mp (by omega)
  have w2 := hr2.mp (by omega)
  refine wp1 (fun n d => r_aloadn f158_20 rfl) ?_
  obtain ⟨fs1001, c1001⟩ := hI_o I (r := 0) (ci := 11) (by decide +kernel)
  have F1002 := hI_r I c1001 (f := 2) (q := 16) (by decide +kernel)
  refine w_get f158_21 c1001 F1002 ?_
  obtain ⟨fs1003, c1003⟩ := hI_o I (r := 16) (ci := 2) (by decide +kernel)
  have F1004 := hI_r I c1003 (f := 9) (q := 22) (by decide +kernel)
  refine w_get f158_24 c1003 F1004 ?_
  refine wp1 (fun n d => r_iloadn f158_27 rfl) ?_
  refine w_iald f158_28 c (by omega) (by omega) (fun v28 hv28 => ?_)
  refine wp1 (fun n d => r_istoren (L' := [some (.ref 0), some (.int x), some (.int y), some (.int v28)]) f158_29 rfl rfl) ?_
  refine wp1 (fun n d => r_aloadn f158_30 rfl) ?_
  refine w_get f158_31 c1001 F1002 ?_
  refine w_get f158_34 c1003 F1004 ?_
  refine wp1 (fun n d => r_iloadn f158_37 rfl) ?_
  refine wp1 (fun n d => r_iloadn f158_38 rfl) ?_
  refine w_iastI f158_39 c (by omega) (by omega) I (W := [(22, 0)]) (lo := (-2147483648)) (hi := 2147483647) (by decide +kernel) (by decide) (iR y).1 (iR y).2 (fun h1005 I1005 G1005 c1005 ne1005 => ?_)
  obtain ⟨g1005, hg1005⟩ : ∃ g', g' = upd g x.toInt.toNat y := ⟨_, rfl⟩
  rw [← hg1005] at c1005
  have c1006 := (ne1005 0 (by decide)).trans c1001
  have c1007 := (ne1005 16 (by decide)).trans c1003
  refine wp1 (fun n d => r_iloadn f158_40 rfl) ?_
  exact wp_end (fun n d => r_ireturn f158_41 rfl) ⟨I1005, G1005, _, _, rfl, c1005, Or.inl ⟨⟨by omega, by omega, by omega, by omega⟩, hv28, hg1005⟩⟩
theorem cell_231 {X : aX} {σ : List Nat} {h : aH} {x y : Int32} {g : Nat → Int32} (I : dI σ h) (c : h.1[91]? = some (.inl (0, 4, .inl g))) : Wp X 2 zM231 (fun v h' => dI σ h' ∧ dG [(91, 0)] σ h σ h' ∧ ∃ (r : Int32) (g' : Nat → Int32), v = some (.int r) ∧ h'.1[91]? = some (.inl (0, 4, .inl g')) ∧ clf 4 364 x y g r g') 0 [some (.ref 72), some (.int x), some (.int y), none] [] h := by
  have kb : ¬ (0 ≤ x.toInt ∧ x.toInt < ((4 : Nat) : Int) ∧ 0 ≤ y.toInt ∧ y.toInt ≤ ((364 : Nat) : Int)) → Wp X 2 zM231 (fun v h' => dI σ h' ∧ dG [(91, 0)] σ h σ h' ∧ ∃ (r : Int32) (g' : Nat → Int32), v = some (.int r) ∧ h'.1[91]? = some (.inl (0, 4, .inl g')) ∧ clf 4 364 x y g r g') 18 [some (.ref 72), some (.int x), some (.int y), none] [] h := fun q => w_iconst f231_18 (fun v hv => wp_end (fun n d => r_ireturn f231_19 rfl) ⟨I, dG_refl _ _ _, v, g, rfl, c, Or.inr ⟨q, hv, rfl⟩⟩)
  refine wp1 (fun n d => r_iloadn f231_0 rfl) ?_
  refine wp_in (lv := 1) (Y := zM206) (rng_206) (fun n d v h' e => r_stat (as := [.int x]) (r := []) f231_1 rfl (show zmt[206]? = some zM206 from rfl) rfl rfl rfl rfl rfl rfl e) (by first | decide | omega) ?_
  rintro v h' ⟨rfl, v1, rfl, z1, hr1⟩
  show Wp _ _ _ _ 4 [some (.ref 72), some (.int x), some (.int y), none] [.int v1] _
  refine w_if_eq f231_4 (fun q => kb (by omega)) (fun q1 => ?_)
  refine wp1 (fun n d => r_iloadn f231_7 rfl) ?_
  refine w_iconst f231_8 (fun v8 hv8 => ?_)
  refine w_sipush f231_9 (fun v9 hv9 => ?_)
  refine wp_in (lv := 0) (Y := zM196) (inx_wp) (fun n d v h' e => r_stat (as := [.int y, .int v8, .int v9]) (r := []) f231_12 rfl (show zmt[196]? = some zM196 from rfl) rfl rfl rfl rfl rfl rfl e) (by first | decide | omega) ?_
  rintro v h' ⟨rfl, v12, rfl, z2, hr2⟩
  show Wp _ _ _ _ 15 [some (.ref 72), some (.int x), some (.int y), none] [.int v12] _
  refine w_if_ne f231_15 (fun q2 => ?_) (fun q => kb (by omega))
  have w1 := hr1.mp (by omega)
  have w2 := hr2.mp (by omega)
  refine wp1 (fun n d => r_aloadn f231_20 rfl) ?_
  obtain ⟨fs1001, c1001⟩ := hI_o I (r := 72) (ci := 12) (by decide +kernel)
  have F1002 := hI_r I c1001 (f := 24) (q := 91) (by decide +kernel)
  refine w_get f231_21 c1001 F1002 ?_
  refine wp1 (fun n d => r_iloadn f231_24 rfl) ?_
  refine w_iald f231_25 c (by omega) (by omega) (fun v25 hv25 => ?_)
  refine wp1 (fun n d => r_istoren (L' := [some (.ref 72), some (.int x), some (.int y), some (.int v25)]) f231_26 rfl rfl) ?_
  refine wp1 (fun n d => r_aloadn f231_27 rfl) ?_
  refine w_get f231_28 c1001 F1002 ?_
  refine wp1 (fun n d => r_iloadn f231_31 rfl) ?_
  refine wp1 (fun n d => r_iloadn f231_32 rfl) ?_
  refine w_iastI f231_33 c (by omega) (by omega) I (W := [(91, 0)]) (lo := (-2147483648)) (hi := 2147483647) (by decide +kernel) (by decide) (iR y).1 (iR y).2 (fun h1003 I1003 G1003 c1003 ne1003 => ?_)
  obtain ⟨g1003, hg1003⟩ : ∃ g', g' = upd g x.toInt.toNat y := ⟨_, rfl⟩
  rw [← hg1003] at c1003
  have c1004 := (ne1003 72 (by decide)).trans c1001
  refine wp1 (fun n d => r_iloadn f231_34 rfl) ?_
  exact wp_end (fun n d => r_ireturn f231_35 rfl) ⟨I1003, G1003, _, _, rfl, c1003, Or.inl ⟨⟨by omega, by omega, by omega, by omega⟩, hv25, hg1003⟩⟩
theorem cell_182 {X : aX} {σ : List Nat} {h : aH} {x y : Int32} {g : Nat → Int32} (I : dI σ h) (c : h.1[57]? = some (.inl (0, 8, .inl g))) : Wp X 2 zM182 (fun v h' => dI σ h' ∧ dG [(57, 0)] σ h σ h' ∧ ∃ (r : Int32) (g' : Nat → Int32), v = some (.int r) ∧ h'.1[57]? = some (.inl (0, 8, .inl g')) ∧ clf 8 99 x y g r g') 0 [some (.ref 0), some (.int x), some (.int y), none] [] h := by
  have kb : ¬ (0 ≤ x.toInt ∧ x.toInt < ((8 : Nat) : Int) ∧ 0 ≤ y.toInt ∧ y.toInt ≤ ((99 : Nat) : Int)) → Wp X 2 zM182 (fun v h' => dI σ h' ∧ dG [(57, 0)] σ h σ h' ∧ ∃ (r : Int32) (g' : Nat → Int32), v = some (.int r) ∧ h'.1[57]? = some (.inl (0, 8, .inl g')) ∧ clf 8 99 x y g r g') 17 [some (.ref 0), some (.int x), some (.int y), none] [] h := fun q => w_iconst f182_17 (fun v hv => wp_end (fun n d => r_ireturn f182_18 rfl) ⟨I, dG_refl _ _ _, v, g, rfl, c, Or.inr ⟨q, hv, rfl⟩⟩)
  refine wp1 (fun n d => r_iloadn f182_0 rfl) ?_
  refine wp_in (lv := 1) (Y := zM141) (rng_141) (fun n d v h' e => r_stat (as := [.int x]) (r := []) f182_1 rfl (show zmt[141]? = some zM141 from rfl) rfl rfl rfl rfl rfl rfl e) (by first | decide | omega) ?_
  rintro v h' ⟨rfl, v1, rfl, z1, hr1⟩
  show Wp _ _ _ _ 4 [some (.ref 0), some (.int x), some (.int y), none] [.int v1] _
  refine w_if_eq f182_4 (fun q => kb (by omega)) (fun q1 => ?_)
  refine wp1 (fun n d => r_iloadn f182_7 rfl) ?_
  refine w_iconst f182_8 (fun v8 hv8 => ?_)
  refine w_bipush f182_9 (fun v9 hv9 => ?_)
  refine wp_in (lv := 0) (Y := zM137) (within_wp) (fun n d v h' e => r_stat (as := [.int y, .int v8, .int v9]) (r := []) f182_11 rfl (show zmt[137]? = some zM137 from rfl) rfl rfl rfl rfl rfl rfl e) (by first | decide | omega) ?_
  rintro v h' ⟨rfl, v11, rfl, z2, hr2⟩
  show Wp _ _ _ _ 14 [some (.ref 0), some (.int x), some (.int y), none] [.int v11] _
  refine w_if_ne f182_14 (fun q2 => ?_) (fun q => kb (by omega))
  have w1 := hr1.mp (by omega)
  have w2 := hr2.mp (by omega)
  refine wp1 (fun n d => r_aloadn f182_19 rfl) ?_
  obtain ⟨fs1001, c1001⟩ := hI_o I (r := 0) (ci := 11) (by decide +kernel)
  have F1002 := hI_r I c1001 (f := 6) (q := 55) (by decide +kernel)
  refine w_get f182_20 c1001 F1002 ?_
  obtain ⟨fs1003, c1003⟩ := hI_o I (r := 55) (ci := 4) (by decide +kernel)
  have F1004 := hI_r I c1003 (f := 2) (q := 57) (by decide +kernel)
  refine w_get f182_23 c1003 F1004 ?_
  refine wp1 (fun n d => r_iloadn f182_26 rfl) ?_
  refine w_iald f182_27 c (by omega) (by omega) (fun v27 hv27 => ?_)
  refine wp1 (fun n d => r_istoren (L' := [some (.ref 0), some (.int x), some (.int y), some (.int v27)]) f182_28 rfl rfl) ?_
  refine wp1 (fun n d => r_aloadn f182_29 rfl) ?_
  refine w_get f182_30 c1001 F1002 ?_
  refine w_get f182_33 c1003 F1004 ?_
  refine wp1 (fun n d => r_iloadn f182_36 rfl) ?_
  refine wp1 (fun n d => r_iloadn f182_37 rfl) ?_
  refine w_iastI f182_38 c (by omega) (by omega) I (W := [(57, 0)]) (lo := (-2147483648)) (hi := 2147483647) (by decide +kernel) (by decide) (iR y).1 (iR y).2 (fun h1005 I1005 G1005 c1005 ne1005 => ?_)
  obtain ⟨g1005, hg1005⟩ : ∃ g', g' = upd g x.toInt.toNat y := ⟨_, rfl⟩
  rw [← hg1005] at c1005
  have c1006 := (ne1005 0 (by decide)).trans c1001
  have c1007 := (ne1005 55 (by decide)).trans c1003
  refine wp1 (fun n d => r_iloadn f182_39 rfl) ?_
  exact wp_end (fun n d => r_ireturn f182_40 rfl) ⟨I1005, G1005, _, _, rfl, c1005, Or.inl ⟨⟨by omega, by omega, by omega, by omega⟩, hv27, hg1005⟩⟩
theorem cell_300 {X : aX} {σ : List Nat} {h : aH} {x y : Int32} {g : Nat → Int32} (I : dI σ h) (c : h.1[137]? = some (.inl (0, 8, .inl g))) : Wp X 1 zM300 (fun v h' => dI σ h' ∧ dG [(137, 0)] σ h σ h' ∧ ∃ (r : Int32) (g' : Nat → Int32), v = some (.int r) ∧ h'.1[137]? = some (.inl (0, 8, .inl g')) ∧ clf 8 99 x y g r g') 0 [some (.ref 72), some (.int x), some (.int y), none] [] h := by
  have kb : ¬ (0 ≤ x.toInt ∧ x.toInt < ((8 : Nat) : Int) ∧ 0 ≤ y.toInt ∧ y.toInt ≤ ((99 : Nat) : Int)) → Wp X 1 zM300 (fun v h' => dI σ h' ∧ dG [(137, 0)] σ h σ h' ∧ ∃ (r : Int32) (g' : Nat → Int32), v = some (.int r) ∧ h'.1[137]? = some (.inl (0, 8, .inl g')) ∧ clf 8 99 x y g r g') 20 [some (.ref 72), some (.int x), some (.int y), none] [] h := fun q => w_iconst f300_20 (fun v hv => wp_end (fun n d => r_ireturn f300_21 rfl) ⟨I, dG_refl _ _ _, v, g, rfl, c, Or.inr ⟨q, hv, rfl⟩⟩)
  refine wp1 (fun n d => r_iloadn f300_0 rfl) ?_
  refine w_iconst f300_1 (fun v1 hv1 => ?_)
  refine w_bipush f300_2 (fun v2 hv2 => ?_)
  refine wp_in (lv := 0) (Y := zM196) (inx_wp) (fun n d v h' e => r_stat (as := [.int x, .int v1, .int v2]) (r := []) f300_4 rfl (show zmt[196]? = some zM196 from rfl) rfl rfl rfl rfl rfl rfl e) (by first | decide | omega) ?_
  rintro v h' ⟨rfl, v4, rfl, z1, hr1⟩
  show Wp _ _ _ _ 7 [some (.ref 72), some (.int x), some (.int y), none] [.int v4] _
  refine w_if_eq f300_7 (fun q => kb (by omega)) (fun q1 => ?_)
  refine wp1 (fun n d => r_iloadn f300_10 rfl) ?_
  refine w_iconst f300_11 (fun v11 hv11 => ?_)
  refine w_bipush f300_12 (fun v12 hv12 => ?_)
  refine wp_in (lv := 0) (Y := zM196) (inx_wp) (fun n d v h' e => r_stat (as := [.int y, .int v11, .int v12]) (r := []) f300_14 rfl (show zmt[196]? = some zM196 from rfl) rfl rfl rfl rfl rfl rfl e) (by first | decide | omega) ?_
  rintro v h' ⟨rfl, v14, rfl, z2, hr2⟩
  show Wp _ _ _ _ 17 [some (.ref 72), some (.int x), some (.int y), none] [.int v14] _
  refine w_if_ne f300_17 (fun q2 => ?_) (fun q => kb (by omega))
  have w1 := hr1.mp (by omega)
  have w2 := hr2.mp (by omega)
  refine wp1 (fun n d => r_aloadn f300_22 rfl) ?_
  obtain ⟨fs1001, c1001⟩ := hI_o I (r := 72) (ci := 12) (by decide +kernel)
  have F1002 := hI_r I c1001 (f := 89) (q := 137) (by decide +kernel)
  refine w_get f300_23 c1001 F1002 ?_
  refine wp1 (fun n d => r_iloadn f300_26 rfl) ?_
  refine w_iald f300_27 c (by omega) (by omega) (fun v27 hv27 => ?_)
  refine wp1 (fun n d => r_istoren (L' := [some (.ref 72), some (.int x), some (.int y), some (.int v27)]) f300_28 rfl rfl) ?_
  refine wp1 (fun n d => r_aloadn f300_29 rfl) ?_
  refine w_get f300_30 c1001 F1002 ?_
  refine wp1 (fun n d => r_iloadn f300_33 rfl) ?_
  refine wp1 (fun n d => r_iloadn f300_34 rfl) ?_
  refine w_iastI f300_35 c (by omega) (by omega) I (W := [(137, 0)]) (lo := (-2147483648)) (hi := 2147483647) (by decide +kernel) (by decide) (iR y).1 (iR y).2 (fun h1003 I1003 G1003 c1003 ne1003 => ?_)
  obtain ⟨g1003, hg1003⟩ : ∃ g', g' = upd g x.toInt.toNat y := ⟨_, rfl⟩
  rw [← hg1003] at c1003
  have c1004 := (ne1003 72 (by decide)).trans c1001
  refine wp1 (fun n d => r_iloadn f300_36 rfl) ?_
  exact wp_end (fun n d => r_ireturn f300_37 rfl) ⟨I1003, G1003, _, _, rfl, c1003, Or.inl ⟨⟨by omega, by omega, by omega, by omega⟩, hv27, hg1003⟩⟩

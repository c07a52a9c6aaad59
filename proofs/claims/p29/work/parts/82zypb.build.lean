-- ===== seasons: summed up and built =====
theorem d97_0 {n : Nat} {X : aX} {h : aH} {P : aH → Prop} {x1 x2 : Int32} {a1 a2 : Int} {q0 : Nat} (S : wS h) (z1 : x1.toInt = a1) (z2 : x2.toInt = a2)  (hq0 : 146 ≤ q0) (H : ∀ h_4 : aH, wS h_4 → vw h_4 = up (up (up (vw h) q0 3 a1) q0 4 a2) q0 5 0 → hk h h_4 → (∀ (w3 : Int32), w3.toInt = 0 → Pt n X zM97 17 [some (.ref q0), some (.int x1), some (.int x2), some (.int w3)] [] h_4 (qN P))) : Pt (n + 1) X zM97 0 [some (.ref q0), some (.int x1), some (.int x2), none] [] h (qN P) := by
  refine pt_1 (fun n d => r_aloadn gx97_0 rfl) ?_
  refine pt_d (pt_1 (fun n d => r_iloadn gx97_1 rfl) ?_)
  refine pt_d (pt_putIk (B := 3) gx97_2 S hq0 z1 (fun h_1 S1 e1 K1 => ?_))
  refine pt_d (pt_1 (fun n d => r_aloadn gx97_5 rfl) ?_)
  refine pt_d (pt_1 (fun n d => r_iloadn gx97_6 rfl) ?_)
  refine pt_d (pt_putIk (B := 4) gx97_7 S1 hq0 z2 (fun h_2 S2 e2 K2 => ?_))
  refine pt_d (pt_1 (fun n d => r_aloadn gx97_10 rfl) ?_)
  refine pt_d (pt_iconst gx97_11 (fun v3 h3 => ?_))
  refine pt_d (pt_putIk (B := 5) gx97_12 S2 hq0 h3 (fun h_4 S4 e4 K4 => ?_))
  refine pt_d (pt_iconst gx97_15 (fun v5 h5 => ?_))
  refine pt_d (pt_1 (fun n d => r_istoren (L' := [some (.ref q0), some (.int x1), some (.int x2), some (.int v5)]) gx97_16 rfl rfl) ?_)
  have H := H h_4 S4 (by rw [e4, e2, e1]) (hk_t (hk_t K1 K2) K4)
  exact H v5 h5
theorem d97_17 {n : Nat} {X : aX} {h : aH} {P : aH → Prop} {x1 x2 x3 : Int32} {a1 a2 a3 : Int} {q0 : Nat} (S : wS h) (z1 : x1.toInt = a1) (z2 : x2.toInt = a2) (z3 : x3.toInt = a3)  (hq0 : 146 ≤ q0) (H : ((vw h) q0 1 = ((16 : Nat) : Int) ∧ ((vw h 16 1 ≤ a3 → ((vw h) q0 7 = (((q0 + 2) : Nat) : Int) ∧ (((∃ t y, h.1[(q0 + 2)]? = some (.inl (t, 300, y))) ∧ 300 < 2147483648) ∧ ∀ (h_6 : aH), (wS h_6 ∧ hk h h_6 ∧ vw h_6 = fillV (vw h) (q0 + 2) 0 300 0) → (∀ (w3 : Int32), w3.toInt = 0 → Pt n X zM97 91 [some (.ref q0), some (.int x1), some (.int x2), some (.int w3)] [] h_6 (qN P))))) ∧ (a3 < vw h 16 1 → ((vw h) q0 1 = ((16 : Nat) : Int) ∧ ((¬ (cnt (vw h) a3 (vw h q0 2) (vw h q0 3)) → (∀ (w3 : Int32), w3.toInt = w32 (a3 + 1) → Pt n X zM97 17 [some (.ref q0), some (.int x1), some (.int x2), some (.int w3)] [] h (qN P))) ∧ ((cnt (vw h) a3 (vw h q0 2) (vw h q0 3)) → ((vw h) q0 6 = (((q0 + 1) : Nat) : Int) ∧ ((vw h) q0 1 = ((16 : Nat) : Int) ∧ (0 ≤ a3 → a3 < 300 → (0 ≤ vw h q0 5 → ∀ h_23 : aH, wS h_23 → vw h_23 = up (up (vw h) (q0 + 1) (vw h q0 5) (vw h 21 a3)) q0 5 (w32 (((up (vw h) (q0 + 1) (vw h q0 5) (vw h 21 a3)) q0 5) + 1)) → hk h h_23 → (∀ (w3 : Int32), w3.toInt = w32 (a3 + 1) → Pt n X zM97 17 [some (.ref q0), some (.int x1), some (.int x2), some (.int w3)] [] h_23 (qN P))))))))))))) : Pt (n + 1) X zM97 17 [some (.ref q0), some (.int x1), some (.int x2), some (.int x3)] [] h (qN P) := by
  refine pt_1 (fun n d => r_iloadn gx97_17 rfl) ?_
  refine pt_d (pt_1 (fun n d => r_aloadn gx97_18 rfl) ?_)
  obtain ⟨pr1, H⟩ := H
  refine pt_d (pt_getK (B := 1) gx97_19 S (pr1) ?_)
  refine pt_d (pt_getI (B := 1) gx97_22 S (fun v2 h2 => ?_))
  refine pt_d (pt_icmp_ge gx97_25 z3 h2 (fun e3 => ?_) (fun e3 => ?_))
  · have H := H.1 e3
    refine pt_d (pt_1 (fun n d => r_aloadn gx97_81 rfl) ?_)
    obtain ⟨pr4, H⟩ := H
    refine pt_d (pt_getK (B := 7) gx97_82 S (pr4) ?_)
    refine pt_d (pt_iconst gx97_85 (fun v5 h5 => ?_))
    obtain ⟨pr6, H⟩ := H
    refine pt_d (pt_stat (as := [.ref (q0 + 2), .int v5]) (r := []) gx97_86 rfl (show zmt[332]? = some zM332 from rfl) rfl rfl rfl rfl (k_332k S h5 300 pr6) (kqN (fun h_6 P6 => ?_)))
    have S6 := P6.1
    have H := H h_6 P6
    show Pt _ _ _ 89 _ [] _ _
    refine pt_d (pt_iconst gx97_89 (fun v7 h7 => ?_))
    refine pt_d (pt_1 (fun n d => r_istoren (L' := [some (.ref q0), some (.int x1), some (.int x2), some (.int v7)]) gx97_90 rfl rfl) ?_)
    exact H v7 h7
  · have H := H.2 e3
    refine pt_d (pt_1 (fun n d => r_aloadn gx97_28 rfl) ?_)
    obtain ⟨pr8, H⟩ := H
    refine pt_d (pt_getK (B := 1) gx97_29 S (pr8) ?_)
    refine pt_d (pt_1 (fun n d => r_iloadn gx97_32 rfl) ?_)
    refine pt_d (pt_1 (fun n d => r_aloadn gx97_33 rfl) ?_)
    refine pt_d (pt_getI (B := 2) gx97_34 S (fun v9 h9 => ?_))
    refine pt_d (pt_1 (fun n d => r_aloadn gx97_37 rfl) ?_)
    refine pt_d (pt_getI (B := 3) gx97_38 S (fun v10 h10 => ?_))
    refine pt_d (pt_virt (as := [.int x3, .int v9, .int v10]) (r := []) gx97_41 rfl (show zmt[29]? = some zM29 from rfl) rfl rfl rfl rfl (c_29 S z3 h9 h10) (kqP (fun v11 h11 => ?_)))
    show Pt _ _ _ 44 _ [.int v11] _ _
    refine pt_d (pt_ifB_eq gx97_44 h11 (fun e12 => ?_) (fun e12 => ?_))
    · have H := H.1 e12
      refine pt_d (pt_iinc (c := 1) gx97_75 rfl z3 (fun v13 h13 => ?_))
      show Pt _ _ _ _ [some (.ref q0), some (.int x1), some (.int x2), some (.int v13)] [] _ _
      refine pt_d (pt_1 (fun n d => r_goto gx97_78) ?_)
      exact H v13 h13
    · have H := H.2 e12
      refine pt_d (pt_1 (fun n d => r_aloadn gx97_47 rfl) ?_)
      obtain ⟨pr14, H⟩ := H
      refine pt_d (pt_getK (B := 6) gx97_48 S (pr14) ?_)
      refine pt_d (pt_1 (fun n d => r_aloadn gx97_51 rfl) ?_)
      refine pt_d (pt_getI (B := 5) gx97_52 S (fun v15 h15 => ?_))
      refine pt_d (pt_1 (fun n d => r_aloadn gx97_55 rfl) ?_)
      obtain ⟨pr16, H⟩ := H
      refine pt_d (pt_getK (B := 1) gx97_56 S (pr16) ?_)
      refine pt_d (pt_getR gx97_59 S tr_16_8 ?_)
      refine pt_d (pt_1 (fun n d => r_iloadn gx97_62 rfl) ?_)
      refine pt_d (pt_iald (N' := 300) gx97_63 S tl_21 z3 (fun v18 p18 q18 h18 => ?_))
      have H := H p18 q18
      refine pt_d (pt_iastDk gx97_64 S h15 h18 (fun h_19 S19 p19 e19 K19 => ?_))
      have H := H p19
      refine pt_d (pt_1 (fun n d => r_aloadn gx97_65 rfl) ?_)
      refine pt_d (pt_1 (fun n d => r_dup gx97_66 rfl) ?_)
      refine pt_d (pt_getI (B := 5) gx97_67 S19 (fun v20 h20 => ?_))
      have h20 : v20.toInt = (up (vw h) (q0 + 1) (vw h q0 5) (vw h 21 a3)) q0 5 := by rw [h20, e19]
      refine pt_d (pt_iconst gx97_70 (fun v21 h21 => ?_))
      refine pt_d (pt_iadd gx97_71 h20 h21 (fun v22 h22 => ?_))
      refine pt_d (pt_putIk (B := 5) gx97_72 S19 hq0 h22 (fun h_23 S23 e23 K23 => ?_))
      refine pt_d (pt_iinc (c := 1) gx97_75 rfl z3 (fun v24 h24 => ?_))
      show Pt _ _ _ _ [some (.ref q0), some (.int x1), some (.int x2), some (.int v24)] [] _ _
      refine pt_d (pt_1 (fun n d => r_goto gx97_78) ?_)
      have H := H h_23 S23 (by rw [e23, e19]) (hk_t K19 K23)
      exact H v24 h24
theorem d97_91 {n : Nat} {X : aX} {h : aH} {P : aH → Prop} {x1 x2 x3 : Int32} {a1 a2 a3 : Int} {q0 : Nat} (S : wS h) (z1 : x1.toInt = a1) (z2 : x2.toInt = a2) (z3 : x3.toInt = a3)  (hq0 : 146 ≤ q0) (H : ((24 ≤ a3 → ((pre105 h q0) ∧ ∀ (h_3 : aH), (wS h_3 ∧ hk h h_3 ∧ vw h_3 = suF (vw h) q0) → P h_3)) ∧ (a3 < 24 → ((vw h) q0 9 = (((q0 + 4) : Nat) : Int) ∧ ((lst (vw h) q0 ∧ 0 ≤ a3 ∧ a3 < 24) ∧ ∀ (y5 : Int) (h_5 : aH), (wS h_5 ∧ h_5 = h ∧ R103 (vw h) q0 a3 y5) → (0 ≤ a3 → ∀ h_6 : aH, wS h_6 → vw h_6 = up (vw h_5) (q0 + 4) a3 y5 → hk h_5 h_6 → ((pre104 (vw h_6) q0 ∧ (0 ≤ a3 ∧ a3 < 24) ∧ vw h_6 q0 9 = ((q0 + 4 : Nat) : Int) ∧ 0 ≤ vw h_6 16 2 ∧ vw h_6 16 2 ≤ 40) ∧ ∀ (h_7 : aH), (wS h_7 ∧ hk h_6 h_7 ∧ vw h_7 = szV (vw h_6) (q0 + 1) (q0 + 2) a3 (barA (vw h_6) q0 a3) (vw h_6 q0 5)) → (∀ (w3 : Int32), w3.toInt = w32 (a3 + 1) → Pt n X zM97 91 [some (.ref q0), some (.int x1), some (.int x2), some (.int w3)] [] h_7 (qN P))))))))) : Pt (n + 1) X zM97 91 [some (.ref q0), some (.int x1), some (.int x2), some (.int x3)] [] h (qN P) := by
  refine pt_1 (fun n d => r_iloadn gx97_91 rfl) ?_
  refine pt_d (pt_bipush gx97_92 (fun v1 h1 => ?_))
  refine pt_d (pt_icmp_ge gx97_94 z3 h1 (fun e2 => ?_) (fun e2 => ?_))
  · have H := H.1 e2
    refine pt_d (pt_1 (fun n d => r_aloadn gx97_119 rfl) ?_)
    obtain ⟨pr3, H⟩ := H
    refine pt_d (pt_virt (as := []) (r := []) gx97_120 rfl (show zmt[105]? = some zM105 from rfl) rfl rfl rfl rfl (c_105 S hq0 pr3) (kqN (fun h_3 P3 => ?_)))
    have S3 := P3.1
    have H := H h_3 P3
    show Pt _ _ _ 123 _ [] _ _
    exact pt_d (pt_vret gx97_123 ⟨rfl, H⟩)
  · have H := H.2 e2
    refine pt_d (pt_1 (fun n d => r_aloadn gx97_97 rfl) ?_)
    obtain ⟨pr4, H⟩ := H
    refine pt_d (pt_getK (B := 9) gx97_98 S (pr4) ?_)
    refine pt_d (pt_1 (fun n d => r_iloadn gx97_101 rfl) ?_)
    refine pt_d (pt_1 (fun n d => r_aloadn gx97_102 rfl) ?_)
    refine pt_d (pt_1 (fun n d => r_iloadn gx97_103 rfl) ?_)
    obtain ⟨pr5, H⟩ := H
    refine pt_d (pt_virt (as := [.int x3]) (r := [.int x3, .ref (q0 + 4)]) gx97_104 rfl (show zmt[103]? = some zM103 from rfl) rfl rfl rfl rfl (c_103 S z3 pr5) (kqI (fun v5 y5 h_5 h5 P5 => ?_)))
    have S5 := P5.1
    have H := H y5 h_5 P5
    show Pt _ _ _ 107 _ [.int v5, .int x3, .ref (q0 + 4)] _ _
    refine pt_d (pt_iastDk gx97_107 S5 z3 h5 (fun h_6 S6 p6 e6 K6 => ?_))
    have H := H p6
    refine pt_d (pt_1 (fun n d => r_aloadn gx97_108 rfl) ?_)
    refine pt_d (pt_1 (fun n d => r_iloadn gx97_109 rfl) ?_)
    have H := H h_6 S6 (by rw [e6]) K6
    obtain ⟨pr7, H⟩ := H
    refine pt_d (pt_virt (as := [.int x3]) (r := []) gx97_110 rfl (show zmt[104]? = some zM104 from rfl) rfl rfl rfl rfl (c_104 S6 z3 hq0 pr7) (kqN (fun h_7 P7 => ?_)))
    have S7 := P7.1
    have H := H h_7 P7
    show Pt _ _ _ 113 _ [] _ _
    refine pt_d (pt_iinc (c := 1) gx97_113 rfl z3 (fun v8 h8 => ?_))
    show Pt _ _ _ _ [some (.ref q0), some (.int x1), some (.int x2), some (.int v8)] [] _ _
    refine pt_d (pt_1 (fun n d => r_goto gx97_116) ?_)
    exact H v8 h8
-- the places that count, numbered
noncomputable def cnN (V : vS) (y k : Int) : Nat → Nat
  | 0 => 0
  | p + 1 => cnN V y k p + (if prB (cnt V (p : Nat) y k) then 1 else 0)
theorem cnN_t {V : vS} {y k : Int} {p : Nat} (h : cnt V (p : Nat) y k) : cnN V y k (p + 1) = cnN V y k p + 1 := by
  have e : cnN V y k (p + 1) = cnN V y k p + (if prB (cnt V (p : Nat) y k) then 1 else 0) := rfl
  rw [e, if_pos (prB_t.mpr h)]
theorem cnN_f {V : vS} {y k : Int} {p : Nat} (h : ¬ cnt V (p : Nat) y k) : cnN V y k (p + 1) = cnN V y k p := by
  have e : cnN V y k (p + 1) = cnN V y k p + (if prB (cnt V (p : Nat) y k) then 1 else 0) := rfl
  rw [e, if_neg (fun z => h (prB_t.mp z))]
  rfl
theorem cnN_le (V : vS) (y k : Int) : ∀ p : Nat, cnN V y k p ≤ p
  | 0 => Nat.le_refl _
  | p + 1 => by
    have := cnN_le V y k p
    by_cases z : cnt V (p : Nat) y k
    · rw [cnN_t z]; omega
    · rw [cnN_f z]; omega
theorem cnN_mono (V : vS) (y k : Int) {p p' : Nat} (h : p ≤ p') : cnN V y k p ≤ cnN V y k p' := by
  obtain ⟨d, rfl⟩ := Nat.le.dest h
  induction d with
  | zero => exact Nat.le_refl _
  | succ d ih =>
    have ih := ih (by omega)
    by_cases z : cnt V ((p + d : Nat) : Int) y k
    · have := cnN_t z
      rw [show p + (d + 1) = p + d + 1 from rfl, this]; omega
    · have := cnN_f z
      rw [show p + (d + 1) = p + d + 1 from rfl, this]; exact ih
theorem cnN_inv (V : vS) (y k : Int) : ∀ (P i : Nat), i < cnN V y k P → ∃ p : Nat, p < P ∧ cnt V (p : Nat) y k ∧ cnN V y k p = i
  | 0, i, h => by
    have e : cnN V y k 0 = 0 := rfl
    rw [e] at h
    omega
  | P + 1, i, h => by
    by_cases z : cnt V (P : Nat) y k
    · rw [cnN_t z] at h
      by_cases w : i = cnN V y k P
      · exact ⟨P, by omega, z, w.symm⟩
      · obtain ⟨p, h1, h2⟩ := cnN_inv V y k P i (by omega)
        exact ⟨p, by omega, h2⟩
    · rw [cnN_f z] at h
      obtain ⟨p, h1, h2⟩ := cnN_inv V y k P i h
      exact ⟨p, by omega, h2⟩
theorem cnt_c {V V' : vS} (h : ∀ (c : Nat) j, (c = 5 ∨ c = 8 ∨ 16 ≤ c ∧ c ≤ 31 ∧ c ≠ 19 ∧ c ≠ 22) → V' c j = V c j) (j y k : Int) : cnt V' j y k ↔ cnt V j y k := by
  unfold cnt wsM bhd
  rw [h 21 j (by decide), h 21 (j + 1) (by decide), h 20 _ (by decide), h 20 _ (by decide), h 5 _ (by decide), h 18 _ (by decide), h 18 _ (by decide), h 17 _ (by decide), h 17 _ (by decide), h 16 1 (by decide)]
theorem cnN_c {V V' : vS} (h : ∀ (c : Nat) j, (c = 5 ∨ c = 8 ∨ 16 ≤ c ∧ c ≤ 31 ∧ c ≠ 19 ∧ c ≠ 22) → V' c j = V c j) (y k : Int) : ∀ p, cnN V' y k p = cnN V y k p
  | 0 => rfl
  | p + 1 => by
    have e : ∀ V : vS, cnN V y k (p + 1) = cnN V y k p + (if prB (cnt V (p : Nat) y k) then 1 else 0) := fun _ => rfl
    rw [e, e, cnN_c h y k p, prB_c (cnt_c h (p : Nat) y k)]
-- the squares of a row that count, of one on the list
noncomputable def szF (V : vS) (q : Nat) (i : Int) (y : Int) : Int := bcn (fun x => (Bt V (q + 1) y i x && !(prB (fltB V (q + 1) y (V q 5) x) || tb (oRw V y (V q 2) (V q 3) (V 16 2).toNat) x)) && !(prB (lsB V (q + 1) y i x))) 32
noncomputable def szS (V : vS) (q : Nat) (i : Int) : Nat → Int
  | 0 => 0
  | y + 1 => szS V q i y + szF V q i (y : Nat)
theorem szS_b (V : vS) (q : Nat) (i : Int) : ∀ y : Nat, 0 ≤ szS V q i y ∧ szS V q i y ≤ 32 * (y : Int)
  | 0 => ⟨Int.le_refl _, Int.le_refl _⟩
  | y + 1 => by
    have ih := szS_b V q i y
    have b : 0 ≤ szF V q i (y : Nat) ∧ szF V q i (y : Nat) ≤ 32 := bcn_b _ 32
    have e : szS V q i (y + 1) = szS V q i y + szF V q i (y : Nat) := rfl
    rw [e]
    omega
def agr (q : Nat) (V V' : vS) : Prop := ∀ (c : Nat) j, c ≠ q + 2 → c ≠ q + 4 → V' c j = V c j
theorem fmA_c {V V' : vS} {r6 : Nat} {i : Int} (h17 : ∀ j, V' 17 j = V 17 j) (h6 : ∀ j, V' r6 j = V r6 j) : fmA V' r6 i = fmA V r6 i := by unfold fmA; rw [h6, h17]
theorem Bt_c {V V' : vS} {r6 : Nat} {y i : Int} {x : Nat} (h8 : ∀ j, V' 8 j = V 8 j) (h18 : ∀ j, V' 18 j = V 18 j) (h6 : ∀ j, V' r6 j = V r6 j) : Bt V' r6 y i x = Bt V r6 y i x := by unfold Bt fdA; rw [h6, h18, h8]
theorem lsB_c {V V' : vS} {r6 : Nat} {y i : Int} {x : Nat} (h8 : ∀ j, V' 8 j = V 8 j) (h17 : ∀ j, V' 17 j = V 17 j) (h18 : ∀ j, V' 18 j = V 18 j) (h6 : ∀ j, V' r6 j = V r6 j) : lsB V' r6 y i x ↔ lsB V r6 y i x := by
  unfold lsB
  simp only [fmA_c h17 h6, Bt_c h8 h18 h6]
theorem fltB_c {V V' : vS} {r6 : Nat} {y N : Int} {x : Nat} (h8 : ∀ j, V' 8 j = V 8 j) (h17 : ∀ j, V' 17 j = V 17 j) (h18 : ∀ j, V' 18 j = V 18 j) (h6 : ∀ j, V' r6 j = V r6 j) : fltB V' r6 y N x ↔ fltB V r6 y N x := by
  unfold fltB
  simp only [fmA_c h17 h6, Bt_c h8 h18 h6]
theorem oRw_c {V V' : vS} (h : ∀ (c : Nat) j, (c = 5 ∨ c = 8 ∨ 16 ≤ c ∧ c ≤ 31 ∧ c ≠ 19 ∧ c ≠ 22) → V' c j = V c j) (y yr k : Int) : ∀ i, oRw V' y yr k i = oRw V y yr k i
  | 0 => rfl
  | i + 1 => by
    have eh : oHit V' y yr k (i : Nat) ↔ oHit V y yr k (i : Nat) := by
      unfold oHit
      rw [h 26 _ (by decide), h 25 _ (by decide), h 23 _ (by decide), h 24 _ (by decide)]
    by_cases z : oHit V y yr k (i : Nat)
    · rw [oRw_t z, oRw_t (eh.mpr z), oRw_c h y yr k i, h 24 _ (by decide), h 23 _ (by decide)]
    · rw [oRw_f z, oRw_f (fun w => z (eh.mp w)), oRw_c h y yr k i]
theorem agr_s {q : Nat} {V V' : vS} (hq : 146 ≤ q) (A : agr q V V') : ∀ (c : Nat) j, c < 146 → V' c j = V c j := fun c j h => A c j (by omega) (by omega)
theorem szF_c {q : Nat} {V V' : vS} (hq : 146 ≤ q) (A : agr q V V') (i y : Int) : szF V' q i y = szF V q i y := by
  have s := agr_s hq A
  have h6 : ∀ j, V' (q + 1) j = V (q + 1) j := fun j => A _ j (by omega) (by omega)
  have hq' : ∀ j, V' q j = V q j := fun j => A _ j (by omega) (by omega)
  unfold szF
  rw [hq', hq', hq', s 16 2 (by decide), oRw_c (fun c j z => s c j (by omega))]
  refine bcn_c 32 (fun x _ => ?_)
  rw [Bt_c (fun j => s 8 j (by decide)) (fun j => s 18 j (by decide)) h6, prB_c (fltB_c (fun j => s 8 j (by decide)) (fun j => s 17 j (by decide)) (fun j => s 18 j (by decide)) h6), prB_c (lsB_c (fun j => s 8 j (by decide)) (fun j => s 17 j (by decide)) (fun j => s 18 j (by decide)) h6)]
theorem szS_c {q : Nat} {V V' : vS} (hq : 146 ≤ q) (A : agr q V V') (i : Int) : ∀ y, szS V' q i y = szS V q i y
  | 0 => rfl
  | y + 1 => by
    have e : ∀ V : vS, szS V q i (y + 1) = szS V q i y + szF V q i (y : Nat) := fun _ => rfl
    rw [e, e, szS_c hq A i y, szF_c hq A]
-- the rows
def rwI (V : vS) (q : Nat) (y : Int) (W : vS) : Prop := agr q V W ∧ (∀ i, 0 ≤ i → i < V q 5 → W (q + 2) i = szS V q i y.toNat) ∧ (∀ i, V q 5 ≤ i → i < 300 → W (q + 2) i = 0) ∧ ∀ y', 0 ≤ y' → y' < y → ∀ x, x < 32 → (tb (W (q + 4) y') x = true ↔ fltB V (q + 1) y' (V q 5) x)
def pre91 (h : aH) (q : Nat) : Prop := pre105 h q ∧ (∀ j, 0 ≤ vw h 8 j ∧ vw h 8 j < 2147483648) ∧ 0 ≤ vw h 16 2 ∧ vw h 16 2 ≤ 40
theorem sfl_c {V V' : vS} {q : Nat} (F : sfl V q) (h : ∀ j, V' q j = V q j) : sfl V' q := by
  unfold sfl at F ⊢
  simp only [h]
  exact F
theorem l_97b {X : aX} {q0 : Nat} {hb : aH} (hq0 : 146 ≤ q0) (H : pre91 hb q0) {Q : aH → Prop} : ∀ (n : Nat) (h : aH) (x1 x2 x3 : Int32) (y : Int), (∀ W, rwI (vw hb) q0 24 W → ∀ h' : aH, wS h' ∧ hk hb h' ∧ vw h' = suF W q0 → Q h') → wS h → hk hb h → x3.toInt = y → 0 ≤ y → y ≤ 24 → rwI (vw hb) q0 y (vw h) → Pt n X zM97 91 [some (.ref q0), some (.int x1), some (.int x2), some (.int x3)] [] h (qN Q) := by
  obtain ⟨⟨L, F, ⟨y10, y11, y12⟩, hc⟩, h8, h2⟩ := H
  intro n
  induction n with
  | zero => exact fun _ _ _ _ _ _ _ _ _ _ _ _ => pt_z
  | succ n ih =>
    intro h x1 x2 x3 y fin S K h3 y0 y1 R
    obtain ⟨A, r1, r2, r3⟩ := R
    have R' : rwI (vw hb) q0 y (vw h) := ⟨A, r1, r2, r3⟩
    have s := agr_s hq0 A
    have a6 : ∀ j, vw h (q0 + 1) j = vw hb (q0 + 1) j := fun j => A _ j (by omega) (by omega)
    have aq : ∀ j, vw h q0 j = vw hb q0 j := fun j => A _ j (by omega) (by omega)
    have L' : lst (vw h) q0 := lst_c L aq a6 (fun j => s 17 j (by decide)) (fun j => s 18 j (by decide))
    have F' := sfl_c F aq
    have e24 : 24 ≤ y → y = 24 := fun z => by omega
    refine d97_91 S rfl rfl h3 hq0 ⟨fun ge => ⟨⟨L', F', ⟨hk_a K y10, hk_a K y11, hk_a K y12⟩, by rw [s 16 3 (by decide)]; exact hc⟩, fun h' k => fin (vw h) (by rw [← e24 ge]; exact R') h' ⟨k.1, hk_t K k.2.1, k.2.2⟩⟩, fun lt => ⟨F'.2.2.1, ⟨L', y0, lt⟩, fun y5 h5 k5 _ h6 S6 e6 K6 => ?_⟩⟩
    obtain ⟨-, rfl, b5⟩ := k5
    have q6 : ∀ (c : Nat) j, c ≠ q0 + 4 → vw h6 c j = vw h5 c j := fun c j a => by rw [e6, up_c a]
    have A6 : agr q0 (vw hb) (vw h6) := fun c j c1 c2 => (q6 c j c2).trans (A c j c1 c2)
    have s6 := agr_s hq0 A6
    have g6 : ∀ j, vw h6 (q0 + 1) j = vw hb (q0 + 1) j := fun j => A6 _ j (by omega) (by omega)
    have gq : ∀ j, vw h6 q0 j = vw hb q0 j := fun j => A6 _ j (by omega) (by omega)
    have L6 : lst (vw h6) q0 := lst_c L gq g6 (fun j => s6 17 j (by decide)) (fun j => s6 18 j (by decide))
    have z6 : ∀ j, vw h6 (q0 + 2) j = vw h5 (q0 + 2) j := fun j => q6 _ j (by omega)
    refine ⟨⟨⟨L6, (gq 7).trans F.1, fun j => by rw [s6 8 j (by decide)]; exact h8 j, fun j j0 j1 => ?_⟩, ⟨y0, lt⟩, (gq 9).trans F.2.2.1, by rw [s6 16 2 (by decide)]; exact h2⟩, fun h7 k7 w3 g3 => ?_⟩
    · rw [z6]
      by_cases w : j < vw hb q0 5
      · rw [r1 j j0 w]
        have := szS_b (vw hb) q0 j y.toNat
        omega
      · rw [r2 j (by omega) j1]
        decide
    · replace g3 := w_1 g3 (by omega) (by omega)
      have e7 := k7.2.2
      refine ih h7 x1 x2 w3 (y + 1) fin k7.1 (hk_t K (hk_t K6 k7.2.1)) g3 (by omega) (by omega) ⟨fun c j c1 c2 => ?_, fun i i0 i1 => ?_, fun i i0 i1 => ?_, fun y' y0' y1' x hx => ?_⟩
      · rw [e7, szV_c c1]
        exact A6 c j c1 c2
      · have ey : (y + 1).toNat = y.toNat + 1 := by omega
        have es : szS (vw hb) q0 i (y.toNat + 1) = szS (vw hb) q0 i y.toNat + szF (vw hb) q0 i (y.toNat : Nat) := rfl
        rw [ey, es, show ((y.toNat : Nat) : Int) = y by omega, e7]
        have e1 : szV (vw h6) (q0 + 1) (q0 + 2) y (barA (vw h6) q0 y) (vw h6 q0 5) (q0 + 2) i = vw h6 (q0 + 2) i + szR (vw h6) (q0 + 1) y (barA (vw h6) q0 y) i := if_pos ⟨rfl, i0, by rw [gq]; exact i1⟩
        rw [e1, z6, r1 i i0 i1]
        congr 1
        unfold szR szF
        refine bcn_c 32 (fun x hx => ?_)
        have eb : tb (barA (vw h6) q0 y) x = (prB (fltB (vw hb) (q0 + 1) y (vw hb q0 5) x) || tb (oRw (vw hb) y (vw hb q0 2) (vw hb q0 3) (vw hb 16 2).toNat) x) := by
          unfold barA
          rw [tb_or, gq, gq, s6 16 2 (by decide), oRw_c (fun c j z => s6 c j (by omega)), e6, up_s]
          congr 1
          rw [Bool.eq_iff_iff, b5 x hx, prB_t, aq]
          exact fltB_c (fun j => s 8 j (by decide)) (fun j => s 17 j (by decide)) (fun j => s 18 j (by decide)) a6
        rw [eb, Bt_c (fun j => s6 8 j (by decide)) (fun j => s6 18 j (by decide)) g6, prB_c (lsB_c (fun j => s6 8 j (by decide)) (fun j => s6 17 j (by decide)) (fun j => s6 18 j (by decide)) g6)]
      · rw [e7]
        have e1 : szV (vw h6) (q0 + 1) (q0 + 2) y (barA (vw h6) q0 y) (vw h6 q0 5) (q0 + 2) i = vw h6 (q0 + 2) i := if_neg (fun z => by rw [gq] at z; omega)
        rw [e1, z6]
        exact r2 i i0 i1
      · rw [e7, szV_c (by omega), e6]
        by_cases w : y' = y
        · subst w
          rw [up_s, b5 x hx, aq]
          exact fltB_c (fun j => s 8 j (by decide)) (fun j => s 17 j (by decide)) (fun j => s 18 j (by decide)) a6
        · rw [up_j w]
          exact r3 y' y0' (by omega) x hx


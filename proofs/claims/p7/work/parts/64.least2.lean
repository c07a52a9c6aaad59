-- ===== by hand: least =====
theorem f288_0 : aF 0 zM288.2.2.2.2.2.2.2 = some (0, (.iload_n 1), 1, 0, 0) := by decide +kernel
theorem f288_1 : aF 1 zM288.2.2.2.2.2.2.2 = some (1, (.invokestatic 372), 3, 198, 0) := by decide +kernel
theorem f288_4 : aF 4 zM288.2.2.2.2.2.2.2 = some (4, (.ifCond .ne 5), 3, 9, 0) := by decide +kernel
theorem f288_7 : aF 7 zM288.2.2.2.2.2.2.2 = some (7, (.iconst (-1)), 1, 0, 0) := by decide +kernel
theorem f288_8 : aF 8 zM288.2.2.2.2.2.2.2 = some (8, .ireturn, 1, 0, 0) := by decide +kernel
theorem f288_9 : aF 9 zM288.2.2.2.2.2.2.2 = some (9, (.aload_n 0), 1, 0, 0) := by decide +kernel
theorem f288_10 : aF 10 zM288.2.2.2.2.2.2.2 = some (10, (.aload_n 0), 1, 0, 0) := by decide +kernel
theorem f288_11 : aF 11 zM288.2.2.2.2.2.2.2 = some (11, (.getfield 262), 3, 12, 1) := by decide +kernel
theorem f288_14 : aF 14 zM288.2.2.2.2.2.2.2 = some (14, (.invokevirtual 368), 3, 239, 0) := by decide +kernel
theorem f288_17 : aF 17 zM288.2.2.2.2.2.2.2 = some (17, (.iconst 0), 1, 0, 0) := by decide +kernel
theorem f288_18 : aF 18 zM288.2.2.2.2.2.2.2 = some (18, (.istore_n 2), 1, 0, 0) := by decide +kernel
theorem f288_19 : aF 19 zM288.2.2.2.2.2.2.2 = some (19, (.iconst 0), 1, 0, 0) := by decide +kernel
theorem f288_20 : aF 20 zM288.2.2.2.2.2.2.2 = some (20, (.istore_n 3), 1, 0, 0) := by decide +kernel
theorem f288_21 : aF 21 zM288.2.2.2.2.2.2.2 = some (21, (.iload_n 3), 1, 0, 0) := by decide +kernel
theorem f288_22 : aF 22 zM288.2.2.2.2.2.2.2 = some (22, (.aload_n 0), 1, 0, 0) := by decide +kernel
theorem f288_23 : aF 23 zM288.2.2.2.2.2.2.2 = some (23, (.getfield 265), 3, 12, 2) := by decide +kernel
theorem f288_26 : aF 26 zM288.2.2.2.2.2.2.2 = some (26, (.if_icmp .ge 34), 3, 60, 0) := by decide +kernel
theorem f288_29 : aF 29 zM288.2.2.2.2.2.2.2 = some (29, (.iload_n 2), 1, 0, 0) := by decide +kernel
theorem f288_30 : aF 30 zM288.2.2.2.2.2.2.2 = some (30, (.aload_n 0), 1, 0, 0) := by decide +kernel
theorem f288_31 : aF 31 zM288.2.2.2.2.2.2.2 = some (31, (.iload_n 3), 1, 0, 0) := by decide +kernel
theorem f288_32 : aF 32 zM288.2.2.2.2.2.2.2 = some (32, (.invokevirtual 322), 3, 203, 0) := by decide +kernel
theorem f288_35 : aF 35 zM288.2.2.2.2.2.2.2 = some (35, (.ifCond .eq 16), 3, 51, 0) := by decide +kernel
theorem f288_38 : aF 38 zM288.2.2.2.2.2.2.2 = some (38, (.aload_n 0), 1, 0, 0) := by decide +kernel
theorem f288_39 : aF 39 zM288.2.2.2.2.2.2.2 = some (39, (.iload_n 3), 1, 0, 0) := by decide +kernel
theorem f288_40 : aF 40 zM288.2.2.2.2.2.2.2 = some (40, (.iload_n 1), 1, 0, 0) := by decide +kernel
theorem f288_41 : aF 41 zM288.2.2.2.2.2.2.2 = some (41, (.invokevirtual 520), 3, 284, 0) := by decide +kernel
theorem f288_44 : aF 44 zM288.2.2.2.2.2.2.2 = some (44, (.ifCond .eq 7), 3, 51, 0) := by decide +kernel
theorem f288_47 : aF 47 zM288.2.2.2.2.2.2.2 = some (47, (.iconst 1), 1, 0, 0) := by decide +kernel
theorem f288_48 : aF 48 zM288.2.2.2.2.2.2.2 = some (48, (.goto 4), 3, 52, 0) := by decide +kernel
theorem f288_51 : aF 51 zM288.2.2.2.2.2.2.2 = some (51, (.iconst 0), 1, 0, 0) := by decide +kernel
theorem f288_52 : aF 52 zM288.2.2.2.2.2.2.2 = some (52, .iadd, 1, 0, 0) := by decide +kernel
theorem f288_53 : aF 53 zM288.2.2.2.2.2.2.2 = some (53, (.istore_n 2), 1, 0, 0) := by decide +kernel
theorem f288_54 : aF 54 zM288.2.2.2.2.2.2.2 = some (54, (.iinc 3 1), 3, 0, 0) := by decide +kernel
theorem f288_57 : aF 57 zM288.2.2.2.2.2.2.2 = some (57, (.goto (-36)), 3, 21, 0) := by decide +kernel
theorem f288_60 : aF 60 zM288.2.2.2.2.2.2.2 = some (60, (.iload_n 2), 1, 0, 0) := by decide +kernel
theorem f288_61 : aF 61 zM288.2.2.2.2.2.2.2 = some (61, (.bipush 10), 2, 0, 0) := by decide +kernel
theorem f288_63 : aF 63 zM288.2.2.2.2.2.2.2 = some (63, (.if_icmp .le 6), 3, 69, 0) := by decide +kernel
theorem f288_66 : aF 66 zM288.2.2.2.2.2.2.2 = some (66, (.bipush (-4)), 2, 0, 0) := by decide +kernel
theorem f288_68 : aF 68 zM288.2.2.2.2.2.2.2 = some (68, .ireturn, 1, 0, 0) := by decide +kernel
theorem f288_69 : aF 69 zM288.2.2.2.2.2.2.2 = some (69, (.aload_n 0), 1, 0, 0) := by decide +kernel
theorem f288_70 : aF 70 zM288.2.2.2.2.2.2.2 = some (70, (.iconst 0), 1, 0, 0) := by decide +kernel
theorem f288_71 : aF 71 zM288.2.2.2.2.2.2.2 = some (71, (.putfield 514), 3, 12, 79) := by decide +kernel
theorem f288_74 : aF 74 zM288.2.2.2.2.2.2.2 = some (74, (.iconst 0), 1, 0, 0) := by decide +kernel
theorem f288_75 : aF 75 zM288.2.2.2.2.2.2.2 = some (75, (.istore_n 3), 1, 0, 0) := by decide +kernel
theorem f288_76 : aF 76 zM288.2.2.2.2.2.2.2 = some (76, (.iload_n 3), 1, 0, 0) := by decide +kernel
theorem f288_77 : aF 77 zM288.2.2.2.2.2.2.2 = some (77, (.aload_n 0), 1, 0, 0) := by decide +kernel
theorem f288_78 : aF 78 zM288.2.2.2.2.2.2.2 = some (78, (.getfield 265), 3, 12, 2) := by decide +kernel
theorem f288_81 : aF 81 zM288.2.2.2.2.2.2.2 = some (81, (.if_icmp .ge 49), 3, 130, 0) := by decide +kernel
theorem f288_84 : aF 84 zM288.2.2.2.2.2.2.2 = some (84, (.aload_n 0), 1, 0, 0) := by decide +kernel
theorem f288_85 : aF 85 zM288.2.2.2.2.2.2.2 = some (85, (.iload_n 3), 1, 0, 0) := by decide +kernel
theorem f288_86 : aF 86 zM288.2.2.2.2.2.2.2 = some (86, (.invokevirtual 322), 3, 203, 0) := by decide +kernel
theorem f288_89 : aF 89 zM288.2.2.2.2.2.2.2 = some (89, (.ifCond .eq 35), 3, 124, 0) := by decide +kernel
theorem f288_92 : aF 92 zM288.2.2.2.2.2.2.2 = some (92, (.aload_n 0), 1, 0, 0) := by decide +kernel
theorem f288_93 : aF 93 zM288.2.2.2.2.2.2.2 = some (93, (.iload_n 3), 1, 0, 0) := by decide +kernel
theorem f288_94 : aF 94 zM288.2.2.2.2.2.2.2 = some (94, (.iload_n 1), 1, 0, 0) := by decide +kernel
theorem f288_95 : aF 95 zM288.2.2.2.2.2.2.2 = some (95, (.invokevirtual 520), 3, 284, 0) := by decide +kernel
theorem f288_98 : aF 98 zM288.2.2.2.2.2.2.2 = some (98, (.ifCond .ne 6), 3, 104, 0) := by decide +kernel
theorem f288_101 : aF 101 zM288.2.2.2.2.2.2.2 = some (101, (.goto 23), 3, 124, 0) := by decide +kernel
theorem f288_104 : aF 104 zM288.2.2.2.2.2.2.2 = some (104, (.aload_n 0), 1, 0, 0) := by decide +kernel
theorem f288_105 : aF 105 zM288.2.2.2.2.2.2.2 = some (105, (.getfield 201), 3, 12, 80) := by decide +kernel
theorem f288_108 : aF 108 zM288.2.2.2.2.2.2.2 = some (108, (.aload_n 0), 1, 0, 0) := by decide +kernel
theorem f288_109 : aF 109 zM288.2.2.2.2.2.2.2 = some (109, (.getfield 514), 3, 12, 79) := by decide +kernel
theorem f288_112 : aF 112 zM288.2.2.2.2.2.2.2 = some (112, (.iload_n 3), 1, 0, 0) := by decide +kernel
theorem f288_113 : aF 113 zM288.2.2.2.2.2.2.2 = some (113, .iastore, 1, 0, 0) := by decide +kernel
theorem f288_114 : aF 114 zM288.2.2.2.2.2.2.2 = some (114, (.aload_n 0), 1, 0, 0) := by decide +kernel
theorem f288_115 : aF 115 zM288.2.2.2.2.2.2.2 = some (115, .dup, 1, 0, 0) := by decide +kernel
theorem f288_116 : aF 116 zM288.2.2.2.2.2.2.2 = some (116, (.getfield 514), 3, 12, 79) := by decide +kernel
theorem f288_119 : aF 119 zM288.2.2.2.2.2.2.2 = some (119, (.iconst 1), 1, 0, 0) := by decide +kernel
theorem f288_120 : aF 120 zM288.2.2.2.2.2.2.2 = some (120, .iadd, 1, 0, 0) := by decide +kernel
theorem f288_121 : aF 121 zM288.2.2.2.2.2.2.2 = some (121, (.putfield 514), 3, 12, 79) := by decide +kernel
theorem f288_124 : aF 124 zM288.2.2.2.2.2.2.2 = some (124, (.iinc 3 1), 3, 0, 0) := by decide +kernel
theorem f288_127 : aF 127 zM288.2.2.2.2.2.2.2 = some (127, (.goto (-51)), 3, 76, 0) := by decide +kernel
theorem lkH_of {σ : List Nat} {h : aH} (I : dI σ h) {F A : List Nat} (k : (F.all (fun f => match cRT[72]? with
  | some t => (match t.2.2.2.2.2[f]? with
    | some ty => Nat.beq ty.1 0 || (Nat.beq ty.1 1 && A.contains ty.2.1.toNat && Nat.blt ty.2.1.toNat 146)
    | none => false)
  | none => false) && A.all (fun r => match cRT[r]? with
  | some t => (Nat.beq t.1 1 || Nat.beq t.1 2) && Nat.blt r 146
  | none => false)) = true) : lkH F A h h := by
  rw [Bool.and_eq_true] at k
  obtain ⟨k1, k2⟩ := k
  obtain ⟨fs, c⟩ := hI_o I (r := 72) (ci := 12) (by decide +kernel)
  refine ⟨fs, fs, c, c, fun f hf => ⟨rfl, fun v hv => ?_⟩, fun r hr => ⟨rfl, ?_⟩⟩
  · have h1 := List.all_eq_true.mp k1 f hf
    cases ht : cRT[72]? with
    | none => rw [ht] at h1; cases h1
    | some t =>
      rw [ht] at h1
      dsimp only at h1
      cases hty : t.2.2.2.2.2[f]? with
      | none => rw [hty] at h1; cases h1
      | some ty =>
        rw [hty] at h1
        dsimp only at h1
        have ht0 : t.1 = 0 ∧ t.2.1 = 12 := by
          have q : tkO 72 12 = true := by decide +kernel
          unfold tkO at q
          rw [ht] at q
          dsimp only at q
          rw [Bool.and_eq_true, Bool.and_eq_true] at q
          exact ⟨Nat.eq_of_beq_eq_true q.1.1, Nat.eq_of_beq_eq_true q.1.2⟩
        obtain ⟨fs', a1, a2, a3⟩ := dI_o I (r := 72) (by decide) ht ht0.1
        rw [ht0.2, c] at a1
        cases a1
        obtain ⟨v', b1, b2⟩ := a3 f ty hty
        cases hv.symm.trans b1
        rw [Bool.or_eq_true] at h1
        rcases h1 with e | e
        · obtain ⟨x, rfl, -, -⟩ := dT_i b2 (Nat.eq_of_beq_eq_true e)
          exact trivial
        · rw [Bool.and_eq_true, Bool.and_eq_true, Nat.blt_eq] at e
          have := dT_r I.1 b2 (Nat.eq_of_beq_eq_true e.1.1) e.2
          rw [this]
          exact Or.inr (List.contains_iff_mem.mp e.1.2)
  · have h1 := List.all_eq_true.mp k2 r hr
    cases ht : cRT[r]? with
    | none => rw [ht] at h1; cases h1
    | some t =>
      rw [ht] at h1
      dsimp only at h1
      rw [Bool.and_eq_true, Bool.or_eq_true, Nat.blt_eq] at h1
      rcases h1.1 with e | e
      · obtain ⟨g, a, -⟩ := dI_a I h1.2 ht (Nat.eq_of_beq_eq_true e)
        exact ⟨_, a⟩
      · obtain ⟨g, a, -⟩ := dI_j I h1.2 ht (Nat.eq_of_beq_eq_true e)
        exact ⟨_, a⟩
theorem lkH_dG {σ σ' : List Nat} {h h' : aH} {F A : List Nat} {W : List (Nat × Nat)} (HH : lkH F A h h) (H : dH σ h) (G : dG W σ h σ' h') (k : (F.all (fun f => !cWn W 72 f) && A.all (fun r => !cWn W r 0 && Nat.blt r 146)) = true) : lkH F A h h' := by
  rw [Bool.and_eq_true] at k
  obtain ⟨k1, k2⟩ := k
  obtain ⟨fs, fs0, c, c0, q1, q2⟩ := HH
  cases c.symm.trans c0
  obtain ⟨fs1, d, dfs⟩ := dG_o H G c (by decide)
  refine ⟨fs, fs1, c, d, fun f hf => ⟨dfs f ?_, (q1 f hf).2⟩, fun r hr => ?_⟩
  · have := List.all_eq_true.mp k1 f hf
    rw [Bool.not_eq_true'] at this
    exact this
  · have := List.all_eq_true.mp k2 r hr
    rw [Bool.and_eq_true, Bool.not_eq_true', Nat.blt_eq] at this
    obtain ⟨-, x, e⟩ := q2 r hr
    exact ⟨(dG_a H G e this.2 this.1).trans e.symm, x, e⟩
/-- a method that only reads: what it answers, and from any heap that agrees -/
def pA (X : aX) (lv a : Nat) (l : aL) (h : aH) (v : Int32) : Prop := ∃ (Y : aM) (N : Nat), zmt[a]? = some Y ∧ ∀ n d, arun X (n + N) (d + lv) Y 0 l [] h = some (some (.int v), h)
theorem pA_of {X : aX} {C : cC} {Y : aM} {F A SM : List Nat} {lo hi : Int} (G : dGood X C) (hY : zmt[C.1]? = some Y) {σ : List Nat} {h : aH} (I : dI σ h) {ρ : List Int} {l1 : aL} (K : dK σ h ρ [] C.2.2.2.1.2.2) (L : dL ρ [] C.2.2.2.1.1 l1) (hA : lkAll F SM = true) (hS : SM.contains C.1 = true) (HH : lkH F A h h) (hl : lkL A l1) (e : C.2.2.2.2.1 = [([], [(1, 1, 0)], ([(0, 0), (lo, hi)], [], [], [], [], [], []))]) :
    ∃ v : Int32, lo ≤ v.toInt ∧ v.toInt ≤ hi ∧ ∀ h', lkH F A h h' → pA X C.2.1 C.1 l1 h' v := by
  obtain ⟨N, v, h1, σ1, e1, e2, e3, e4⟩ := G Y hY l1 h σ ρ [] I K L
  obtain ⟨x, rfl, p, q⟩ := rpost_i e4 e
  refine ⟨x, p, q, fun h' H' => ⟨Y, N, hY, fun n d => ?_⟩⟩
  exact (lk_run hA H' _ _ _ _ _ _ _ _ (lkM_of hA hS hY) hl lkS_nil (e1 n d)).2.2
theorem wp_pA {X : aX} {D : Nat} {M Y : aM} {Q : Option Value → aH → Prop} {pc pc' a lv : Nat} {l l' l1 : aL} {st r : List Value} {h : aH} {v : Int32} (hY : zmt[a]? = some Y) (k1 : pA X lv a l1 h v) (hs : ∀ (n d : Nat) (v : Option Value) (h1 : aH), arun X n d Y 0 l1 [] h = some (v, h1) → arun X (n + 1) (d + 1) M pc l st h = arun X n (d + 1) M pc' l' (v.toList ++ r) h1) (hd : lv + 1 ≤ D) (k : Wp X D M Q pc' l' (.int v :: r) h) : Wp X D M Q pc l st h := by
  obtain ⟨Y', N, hY', hr⟩ := k1
  cases hY.symm.trans hY'
  exact wp_call (fun n d e => hs n d _ _ e) hd hr k
theorem lkL_ri {A : List Nat} : ∀ (xs : List Int32) (n : Nat), lkL A (some (.ref 72) :: (xs.map (fun x => some (Value.int x)) ++ List.replicate n none)) := by
  intro xs n
  refine lkL_cons (fun v e => by cases e; exact Or.inl rfl) ?_
  induction xs with
  | nil =>
    intro i v e
    have e := aG_get.mp e
    simp only [List.map_nil, List.nil_append, List.getElem?_replicate] at e
    split at e <;> cases e
  | cons x r ih => exact lkL_cons (fun v e => by cases e; exact trivial) ih
def lF : List Nat := [2, 3, 10, 19, 20, 21, 23, 40]
def lA : List Nat := [73, 80, 87, 88, 90, 103]
def lS : List Nat := [196, 200, 201, 203, 229, 282, 283, 284]
def lW2 : List (Nat × Nat) := [(72, 79), (132, 0)]
theorem lAll : lkAll lF lS = true := by decide +kernel
theorem lH0 {σ : List Nat} {h : aH} (I : dI σ h) : lkH lF lA h h := lkH_of I (by decide +kernel)
theorem lH1 {σ σ' : List Nat} {h h' : aH} (I : dI σ h) (G : dG lW2 σ h σ' h') : lkH lF lA h h' := lkH_dG (lH0 I) I.1 G (by decide +kernel)
/-- which bodies are fields in trouble, as this heap says -/
theorem isf_of {X : aX} (G3 : dGood X cC303) {σ : List Nat} {h : aH} (I : dI σ h) : ∃ f : Nat → Int32, ∀ (b : Int32), 0 ≤ b.toInt → b.toInt ≤ 149 → ∀ h', lkH lF lA h h' → pA X 2 203 [some (.ref 72), some (.int b)] h' (f b.toInt.toNat) := by
  have : ∀ n : Nat, ∃ v : Int32, n ≤ 149 → ∀ b : Int32, b.toInt = n → ∀ h', lkH lF lA h h' → pA X 2 203 [some (.ref 72), some (.int b)] h' v := by
    intro n
    by_cases hn : n ≤ 149
    · have e : (Int32.ofInt n).toInt = n := Int32.toInt_ofInt_of_le (by omega) (by omega)
      obtain ⟨v, -, -, q⟩ := pA_of G3 (Y := zM203) rfl I (ρ := [0, (Int32.ofInt n).toInt]) (l1 := [some (.ref 72), some (.int (Int32.ofInt n))]) (dK_v (kV_of rfl ⟨⟨by decide, by decide⟩, ⟨by show (0 : Int) ≤ _; omega, by show _ ≤ (149 : Int); omega⟩, trivial⟩)) (dL_of ⟨lw_r (by decide), lw_i rfl, trivial⟩) lAll (by decide) (lH0 I) (lkL_ri [Int32.ofInt n] 0) rfl
      refine ⟨v, fun _ b hb h' H => ?_⟩
      have : b = Int32.ofInt n := b_i.mpr (by omega)
      rw [this]
      exact q h' H
    · exact ⟨0, fun q => absurd q hn⟩
  obtain ⟨f, hf⟩ := Classical.skolem.mp this
  exact ⟨f, fun b h1 h2 h' H => hf b.toInt.toNat (by omega) b (by omega) h' H⟩
theorem tro_of {X : aX} (G7 : dGood X cC307) {σ : List Nat} {h : aH} (I : dI σ h) {y : Int32} (y0 : 0 ≤ y.toInt) (y1 : y.toInt ≤ 9) : ∃ f : Nat → Int32, ∀ (b : Int32), 0 ≤ b.toInt → b.toInt ≤ 149 → ∀ h', lkH lF lA h h' → pA X 2 284 [some (.ref 72), some (.int b), some (.int y), none, none] h' (f b.toInt.toNat) := by
  have : ∀ n : Nat, ∃ v : Int32, n ≤ 149 → ∀ b : Int32, b.toInt = n → ∀ h', lkH lF lA h h' → pA X 2 284 [some (.ref 72), some (.int b), some (.int y), none, none] h' v := by
    intro n
    by_cases hn : n ≤ 149
    · have e : (Int32.ofInt n).toInt = n := Int32.toInt_ofInt_of_le (by omega) (by omega)
      obtain ⟨v, -, -, q⟩ := pA_of G7 (Y := zM284) rfl I (ρ := [0, (Int32.ofInt n).toInt, y.toInt]) (l1 := [some (.ref 72), some (.int (Int32.ofInt n)), some (.int y), none, none]) (dK_v (kV_of rfl ⟨⟨by decide, by decide⟩, ⟨by show (0 : Int) ≤ _; omega, by show _ ≤ (149 : Int); omega⟩, ⟨by show (0 : Int) ≤ _; omega, by show _ ≤ (9 : Int); omega⟩, trivial⟩)) (dL_of ⟨lw_r (by decide), lw_i rfl, lw_i rfl, lw_0, lw_0, trivial⟩) lAll (by decide) (lH0 I) (lkL_ri [Int32.ofInt n, y] 2) rfl
      refine ⟨v, fun _ b hb h' H => ?_⟩
      have : b = Int32.ofInt n := b_i.mpr (by omega)
      rw [this]
      exact q h' H
    · exact ⟨0, fun q => absurd q hn⟩
  obtain ⟨f, hf⟩ := Classical.skolem.mp this
  exact ⟨f, fun b h1 h2 h' H => hf b.toInt.toNat (by omega) b (by omega) h' H⟩
def lsT (f1 f2 : Nat → Int32) (b : Nat) : Int32 := if (f1 b).toInt ≠ 0 ∧ (f2 b).toInt ≠ 0 then 1 else 0
theorem lsT_1 {f1 f2 : Nat → Int32} {b : Nat} (h1 : (f1 b).toInt ≠ 0) (h2 : (f2 b).toInt ≠ 0) : cntN (lsT f1 f2) (b + 1) = cntN (lsT f1 f2) b + 1 := by
  have e : lsT f1 f2 b = 1 := by unfold lsT; rw [if_pos ⟨h1, h2⟩]
  show cntN _ b + (if (lsT f1 f2 b).toInt = 0 then 0 else 1) = _
  rw [e, if_neg (by decide)]
theorem lsT_0 {f1 f2 : Nat → Int32} {b : Nat} (h : (f1 b).toInt = 0 ∨ (f2 b).toInt = 0) : cntN (lsT f1 f2) (b + 1) = cntN (lsT f1 f2) b := by
  have e : lsT f1 f2 b = 0 := by
    unfold lsT
    rw [if_neg]
    rintro ⟨q1, q2⟩
    rcases h with q | q
    · exact q1 q
    · exact q2 q
  show cntN _ b + (if (lsT f1 f2 b).toInt = 0 then 0 else 1) = _
  rw [e, if_pos (by decide)]
  omega
theorem leastA {X : aX} {D : Nat} (hD : 3 ≤ D) {Q : Option Value → aH → Prop} {x1 nb : Int32} {u4 u5 u6 u7 : Option Value} {h0 h : aH} {fs : List Value} {f1 f2 : Nat → Int32} (S1 : ∀ (b : Int32), 0 ≤ b.toInt → b.toInt ≤ 149 → ∀ h', lkH lF lA h0 h' → pA X 2 203 [some (.ref 72), some (.int b)] h' (f1 b.toInt.toNat)) (S2 : ∀ (b : Int32), 0 ≤ b.toInt → b.toInt ≤ 149 → ∀ h', lkH lF lA h0 h' → pA X 2 284 [some (.ref 72), some (.int b), some (.int x1), none, none] h' (f2 b.toInt.toNat)) (n0 : 0 ≤ nb.toInt) (n1 : nb.toInt ≤ 150) (lk : lkH lF lA h0 h) (c72 : h.1[72]? = some (.inr (12, fs))) (F72_2 : fs[2]? = some (.int nb))
    (kq : ∀ (x2' x3' : Int32), x2'.toInt = cntN (lsT f1 f2) nb.toInt.toNat → Wp X D zM288 Q 60 [some (.ref 72), some (.int x1), some (.int x2'), some (.int x3'), u4, u5, u6, u7] [] h) : ∀ (k : Nat) (x2 x3 : Int32), (nb.toInt - x3.toInt).toNat = k → 0 ≤ x3.toInt → x3.toInt ≤ nb.toInt → x2.toInt = cntN (lsT f1 f2) x3.toInt.toNat → Wp X D zM288 Q 21 [some (.ref 72), some (.int x1), some (.int x2), some (.int x3), u4, u5, u6, u7] [] h := by
  intro k
  induction k with
  | zero =>
    intro x2 x3 hk a0 a1 hc
    refine wp1 (fun n d => r_iloadn f288_21 rfl) ?_
    refine wp1 (fun n d => r_aloadn f288_22 rfl) ?_
    refine w_get f288_23 c72 F72_2 ?_
    refine w_icmp_ge f288_26 (fun e => kq x2 x3 ?_) (fun e => absurd e (by omega))
    rw [show nb.toInt.toNat = x3.toInt.toNat by omega]
    exact hc
  | succ k ih =>
    intro x2 x3 hk a0 a1 hc
    have hle := cntN_le (lsT f1 f2) x3.toInt.toNat
    refine wp1 (fun n d => r_iloadn f288_21 rfl) ?_
    refine wp1 (fun n d => r_aloadn f288_22 rfl) ?_
    refine w_get f288_23 c72 F72_2 ?_
    refine w_icmp_ge f288_26 (fun e26 => absurd e26 (by omega)) (fun e26 => ?_)
    have k52 : ∀ v : Int32, 0 ≤ v.toInt → v.toInt ≤ 1 → x2.toInt + v.toInt = cntN (lsT f1 f2) (x3.toInt.toNat + 1) → Wp X D zM288 Q 52 [some (.ref 72), some (.int x1), some (.int x2), some (.int x3), u4, u5, u6, u7] [.int v, .int x2] h := by
      intro v v0 v1 hv
      refine w_iadd f288_52 (by omega) (by omega) (fun v52 hv52 => ?_)
      refine wp1 (fun n d => r_istoren (L' := [some (.ref 72), some (.int x1), some (.int v52), some (.int x3), u4, u5, u6, u7]) f288_53 rfl rfl) ?_
      refine w_iinc f288_54 rfl (by omega) (by omega) (fun v54 hv54 => ?_)
      show Wp _ _ _ _ 57 [some (.ref 72), some (.int x1), some (.int v52), some (.int v54), u4, u5, u6, u7] [] _
      refine wp1 (fun n d => r_goto f288_57) ?_
      exact ih v52 v54 (by omega) (by omega) (by omega) (by rw [show v54.toInt.toNat = x3.toInt.toNat + 1 by omega]; omega)
    have k51 : (f1 x3.toInt.toNat).toInt = 0 ∨ (f2 x3.toInt.toNat).toInt = 0 → Wp X D zM288 Q 51 [some (.ref 72), some (.int x1), some (.int x2), some (.int x3), u4, u5, u6, u7] [.int x2] h := by
      intro q
      refine w_iconst f288_51 (fun v hv => ?_)
      exact k52 v (by omega) (by omega) (by rw [lsT_0 q]; omega)
    refine wp1 (fun n d => r_iloadn f288_29 rfl) ?_
    refine wp1 (fun n d => r_aloadn f288_30 rfl) ?_
    refine wp1 (fun n d => r_iloadn f288_31 rfl) ?_
    refine wp_pA (Y := zM203) (r := [.int x2]) (show zmt[203]? = some zM203 from rfl) (S1 x3 (by omega) (by omega) _ lk) (fun n d v h' e => r_virt (as := [.int x3]) (r := [.int x2]) f288_32 c72 (show zmt[203]? = some zM203 from rfl) rfl rfl rfl rfl rfl rfl e) (by omega) ?_
    show Wp _ _ _ _ 35 [some (.ref 72), some (.int x1), some (.int x2), some (.int x3), u4, u5, u6, u7] [.int (f1 x3.toInt.toNat), .int x2] _
    refine w_if_eq f288_35 (fun e35 => k51 (Or.inl e35)) (fun e35 => ?_)
    refine wp1 (fun n d => r_aloadn f288_38 rfl) ?_
    refine wp1 (fun n d => r_iloadn f288_39 rfl) ?_
    refine wp1 (fun n d => r_iloadn f288_40 rfl) ?_
    refine wp_pA (Y := zM284) (r := [.int x2]) (show zmt[284]? = some zM284 from rfl) (S2 x3 (by omega) (by omega) _ lk) (fun n d v h' e => r_virt (as := [.int x3, .int x1]) (r := [.int x2]) f288_41 c72 (show zmt[284]? = some zM284 from rfl) rfl rfl rfl rfl rfl rfl e) (by omega) ?_
    show Wp _ _ _ _ 44 [some (.ref 72), some (.int x1), some (.int x2), some (.int x3), u4, u5, u6, u7] [.int (f2 x3.toInt.toNat), .int x2] _
    refine w_if_eq f288_44 (fun e44 => k51 (Or.inr e44)) (fun e44 => ?_)
    refine w_iconst f288_47 (fun v47 hv47 => ?_)
    refine wp1 (fun n d => r_goto f288_48) ?_
    exact k52 v47 (by omega) (by omega) (by rw [lsT_1 e35 e44]; omega)
theorem leastB {X : aX} {D : Nat} (hD : 3 ≤ D) {Q : Option Value → aH → Prop} {x1 nb : Int32} {x2 : Int32} {u4 u5 u6 u7 : Option Value} {σ0 : List Nat} {h0 : aH} {f1 f2 : Nat → Int32} (I0 : dI σ0 h0) (S1 : ∀ (b : Int32), 0 ≤ b.toInt → b.toInt ≤ 149 → ∀ h', lkH lF lA h0 h' → pA X 2 203 [some (.ref 72), some (.int b)] h' (f1 b.toInt.toNat)) (S2 : ∀ (b : Int32), 0 ≤ b.toInt → b.toInt ≤ 149 → ∀ h', lkH lF lA h0 h' → pA X 2 284 [some (.ref 72), some (.int b), some (.int x1), none, none] h' (f2 b.toInt.toNat)) (n0 : 0 ≤ nb.toInt) (n1 : nb.toInt ≤ 150) (h10 : cntN (lsT f1 f2) nb.toInt.toNat ≤ 10) : ∀ (k : Nat) (x3 tr : Int32) (σ : List Nat) (h : aH) (fs : List Value), (nb.toInt - x3.toInt).toNat = k → 0 ≤ x3.toInt → x3.toInt ≤ nb.toInt → dI σ h → dG lW2 σ0 h0 σ h → h.1[72]? = some (.inr (12, fs)) → fs[2]? = some (.int nb) → fs[79]? = some (.int tr) → tr.toInt = cntN (lsT f1 f2) x3.toInt.toNat →
    (∀ (σ' : List Nat) (h' : aH) (x3' : Int32), dI σ' h' → dG lW2 σ0 h0 σ' h' → Wp X D zM288 Q 130 [some (.ref 72), some (.int x1), some (.int x2), some (.int x3'), u4, u5, u6, u7] [] h') → Wp X D zM288 Q 76 [some (.ref 72), some (.int x1), some (.int x2), some (.int x3), u4, u5, u6, u7] [] h := by
  intro k
  induction k with
  | zero =>
    intro x3 tr σ h fs hk a0 a1 I G c72 F72_2 F72_79 hc kq
    refine wp1 (fun n d => r_iloadn f288_76 rfl) ?_
    refine wp1 (fun n d => r_aloadn f288_77 rfl) ?_
    refine w_get f288_78 c72 F72_2 ?_
    exact w_icmp_ge f288_81 (fun e => kq σ h x3 I G) (fun e => absurd e (by omega))
  | succ k ih =>
    intro x3 tr σ h fs hk a0 a1 I G c72 F72_2 F72_79 hc kq
    have hle := cntN_le (lsT f1 f2) x3.toInt.toNat
    refine wp1 (fun n d => r_iloadn f288_76 rfl) ?_
    refine wp1 (fun n d => r_aloadn f288_77 rfl) ?_
    refine w_get f288_78 c72 F72_2 ?_
    refine w_icmp_ge f288_81 (fun e81 => absurd e81 (by omega)) (fun e81 => ?_)
    have hm := cntN_mono (lsT f1 f2) (x3.toInt.toNat + 1) nb.toInt.toNat (by omega)
    have k124 : ∀ (h1 : aH) (fs1 : List Value) (t1 : Int32), dI σ h1 → dG lW2 σ0 h0 σ h1 → h1.1[72]? = some (.inr (12, fs1)) → fs1[2]? = some (.int nb) → fs1[79]? = some (.int t1) → t1.toInt = cntN (lsT f1 f2) (x3.toInt.toNat + 1) → Wp X D zM288 Q 124 [some (.ref 72), some (.int x1), some (.int x2), some (.int x3), u4, u5, u6, u7] [] h1 := by
      intro h1 fs1 t1 I1 G1 d72 E2 E79 ht
      refine w_iinc f288_124 rfl (by omega) (by omega) (fun v124 hv124 => ?_)
      show Wp _ _ _ _ 127 [some (.ref 72), some (.int x1), some (.int x2), some (.int v124), u4, u5, u6, u7] [] _
      refine wp1 (fun n d => r_goto f288_127) ?_
      exact ih v124 t1 σ h1 fs1 (by omega) (by omega) (by omega) I1 G1 d72 E2 E79 (by rw [show v124.toInt.toNat = x3.toInt.toNat + 1 by omega]; exact ht) kq
    have k124' : (f1 x3.toInt.toNat).toInt = 0 ∨ (f2 x3.toInt.toNat).toInt = 0 → Wp X D zM288 Q 124 [some (.ref 72), some (.int x1), some (.int x2), some (.int x3), u4, u5, u6, u7] [] h := fun q => k124 h fs tr I G c72 F72_2 F72_79 (by rw [lsT_0 q]; exact hc)
    refine wp1 (fun n d => r_aloadn f288_84 rfl) ?_
    refine wp1 (fun n d => r_iloadn f288_85 rfl) ?_
    refine wp_pA (Y := zM203) (r := []) (show zmt[203]? = some zM203 from rfl) (S1 x3 (by omega) (by omega) _ (lH1 I0 G)) (fun n d v h' e => r_virt (as := [.int x3]) (r := []) f288_86 c72 (show zmt[203]? = some zM203 from rfl) rfl rfl rfl rfl rfl rfl e) (by omega) ?_
    show Wp _ _ _ _ 89 [some (.ref 72), some (.int x1), some (.int x2), some (.int x3), u4, u5, u6, u7] [.int (f1 x3.toInt.toNat)] _
    refine w_if_eq f288_89 (fun e89 => k124' (Or.inl e89)) (fun e89 => ?_)
    refine wp1 (fun n d => r_aloadn f288_92 rfl) ?_
    refine wp1 (fun n d => r_iloadn f288_93 rfl) ?_
    refine wp1 (fun n d => r_iloadn f288_94 rfl) ?_
    refine wp_pA (Y := zM284) (r := []) (show zmt[284]? = some zM284 from rfl) (S2 x3 (by omega) (by omega) _ (lH1 I0 G)) (fun n d v h' e => r_virt (as := [.int x3, .int x1]) (r := []) f288_95 c72 (show zmt[284]? = some zM284 from rfl) rfl rfl rfl rfl rfl rfl e) (by omega) ?_
    show Wp _ _ _ _ 98 [some (.ref 72), some (.int x1), some (.int x2), some (.int x3), u4, u5, u6, u7] [.int (f2 x3.toInt.toNat)] _
    refine w_if_ne f288_98 (fun e98 => ?_) (fun e98 => ?_)
    rotate_left
    · refine wp1 (fun n d => r_goto f288_101) ?_
      exact k124' (Or.inr e98)
    have h1 := lsT_1 e89 e98
    refine wp1 (fun n d => r_aloadn f288_104 rfl) ?_
    have F1001 := hI_r I c72 (f := 80) (q := 132) (by decide +kernel)
    refine w_get f288_105 c72 F1001 ?_
    refine wp1 (fun n d => r_aloadn f288_108 rfl) ?_
    refine w_get f288_109 c72 F72_79 ?_
    refine wp1 (fun n d => r_iloadn f288_112 rfl) ?_
    obtain ⟨g1002, c1002, R1002⟩ := hI_a I (r := 132) (a := 0) (n := 10) (lo := 0) (hi := 149) (by decide +kernel)
    refine w_iastI f288_113 c1002 (by omega) (by omega) I (W := lW2) (lo := 0) (hi := 149) (by decide +kernel) (by decide) (by omega) (by omega) (fun h1003 I1003 G1003 c1003 ne1003 => ?_)
    obtain ⟨g1003, hg1003⟩ : ∃ g', g' = upd g1002 tr.toInt.toNat x3 := ⟨_, rfl⟩
    rw [← hg1003] at c1003
    have c1004 := (ne1003 72 (by decide)).trans c72
    refine wp1 (fun n d => r_aloadn f288_114 rfl) ?_
    refine wp1 (fun n d => r_dup f288_115 rfl) ?_
    refine w_get f288_116 c1004 F72_79 ?_
    refine w_iconst f288_119 (fun v119 hv119 => ?_)
    refine w_iadd f288_120 (by omega) (by omega) (fun v120 hv120 => ?_)
    refine w_putI f288_121 c1004 I1003 (W := lW2) (lo := 0) (hi := 10) (by decide +kernel) (by decide) (by decide) (by omega) (by omega) (by decide) (by first | rfl | (simp [aok, zY])) (fun h1005 fs1005 I1005 G1005 c1005 Fx1005 nf1005 ne1005 => ?_)
    have c1006 := (ne1005 132 (by decide)).trans c1003
    have F1007 := (nf1005 2 (by decide)).trans F72_2
    have F1008 := (nf1005 80 (by decide)).trans F1001
    exact k124 h1005 fs1005 v120 I1005 (dG_trans (dG_trans G G1003) G1005) c1005 F1007 Fx1005 (by omega)
theorem hand_206 {X : aX} (hX : X 0 = some (8, zab)) (T : hT X cCTx 216) (G71 : dGood X cC71) : dGood X cC206 := by
  have G3 : dGood X cC303 := T 207 (by decide) _ rfl
  have G7 : dGood X cC307 := T 211 (by decide) _ rfl
  have Ty := hT_y hX T
  intro M hM l h σ ρ rh I K L
  have hM0 : zmt[288]? = some zM288 := rfl
  cases (show zmt[288]? = some M from hM).symm.trans hM0
  have a0 := dL_r L (i := 0) (c := 72) (o := 0) rfl (by decide)
  obtain ⟨x1, a1, b1, b1'⟩ := hL_i L K.1 (i := 1) (p := 1) (o := 0) (lo := -2147483648) (hi := 2147483647) rfl rfl
  obtain ⟨u0, l1, rfl, e1⟩ := hcons (show l.length = 8 from L.1)
  obtain ⟨u1, l2, rfl, e2⟩ := hcons e1
  obtain ⟨u2, l3, rfl, e3⟩ := hcons e2
  obtain ⟨u3, l4, rfl, e4⟩ := hcons e3
  obtain ⟨u4, l5, rfl, e5⟩ := hcons e4
  obtain ⟨u5, l6, rfl, e6⟩ := hcons e5
  obtain ⟨u6, l7, rfl, e7⟩ := hcons e6
  obtain ⟨u7, l8, rfl, e8⟩ := hcons e7
  cases hnil e8
  cases Option.some.inj a0
  cases Option.some.inj a1
  have fin : ∀ (x : Int32) (σ' : List Nat) (h' : aH), dI σ' h' → dG cC206.2.2.1 σ h σ' h' → hQ cC206 σ h (some (.int x)) h' := fun x σ' h' I' G' => ⟨σ', I', G', _, List.mem_cons_self, post_i I'.1 (iR x).1 (iR x).2⟩
  refine hEnd ?_
  show Wp X 30 zM288 _ 0 [some (.ref 72), some (.int x1), u2, u3, u4, u5, u6, u7] [] h
  refine wp1 (fun n d => r_iloadn f288_0 rfl) ?_
  refine wp_in (lv := 1) (Y := zM198) (isYear_wp (x := x1)) (fun n d v h' e => r_stat (as := [.int x1]) (r := []) f288_1 rfl (show zmt[198]? = some zM198 from rfl) rfl rfl rfl rfl rfl rfl e) (by first | decide | omega) ?_
  rintro v h' ⟨rfl, v1, rfl, z1, r1⟩
  show Wp _ _ _ _ 4 [some (.ref 72), some (.int x1), u2, u3, u4, u5, u6, u7] [.int v1] _
  refine w_if_ne f288_4 (fun e4 => ?_) (fun _ => w_iconst f288_7 (fun v _ => wp_end (fun n d => r_ireturn f288_8 rfl) (fin v σ h I (dG_refl _ _ _))))
  have R1 := r1 (by omega)
  refine wp1 (fun n d => r_aloadn f288_9 rfl) ?_
  refine wp1 (fun n d => r_aloadn f288_10 rfl) ?_
  obtain ⟨fs1001, c1001⟩ := hI_o I (r := 72) (ci := 12) (by decide +kernel)
  obtain ⟨x1_1002, F1002, lo1002, hi1002⟩ := hI_i I c1001 (f := 1) (lo := 0) (hi := 3649) (by decide +kernel)
  refine w_get f288_11 c1001 F1002 ?_
  refine wp_good G71 (Y := zM239) (show zmt[239]? = some zM239 from rfl) I (ρ := [0, x1_1002.toInt]) (dK_v (kV_of rfl ⟨⟨by decide, by decide⟩, ⟨by show (0 : Int) ≤ _; omega, by show _ ≤ (3649 : Int); omega⟩, trivial⟩)) (dL_of (l := [some (.ref 72), some (.int x1_1002), none, none, none]) ⟨lw_r (by decide), lw_i rfl, lw_0, lw_0, lw_0, trivial⟩) (fun n d v h' e => r_virt (as := [.int x1_1002]) (r := []) f288_14 c1001 (show zmt[239]? = some zM239 from rfl) rfl rfl rfl rfl rfl rfl e) (by first | decide | (show 3 + 1 ≤ _; omega)) (fun v h1003 σ1003 I1003 G1003 P1003 => ?_)
  cases rpost_0 P1003 rfl
  show Wp _ _ _ _ 17 [some (.ref 72), some (.int x1), u2, u3, u4, u5, u6, u7] [] _
  obtain ⟨fs1004, c1004, df1004⟩ := dG_o I.1 G1003 c1001 (by decide)
  have F1005 := (df1004 1 rfl).trans F1002
  obtain ⟨x2_1006, F1006, lo1006, hi1006⟩ := hI_i I1003 c1004 (f := 2) (lo := 0) (hi := 150) (by decide +kernel)
  refine w_iconst f288_17 (fun v17 hv17 => ?_)
  refine wp1 (fun n d => r_istoren (L' := [some (.ref 72), some (.int x1), some (.int v17), u3, u4, u5, u6, u7]) f288_18 rfl rfl) ?_
  refine w_iconst f288_19 (fun v19 hv19 => ?_)
  refine wp1 (fun n d => r_istoren (L' := [some (.ref 72), some (.int x1), some (.int v17), some (.int v19), u4, u5, u6, u7]) f288_20 rfl rfl) ?_
  obtain ⟨f1, S1⟩ := isf_of G3 I1003
  obtain ⟨f2, S2⟩ := tro_of G7 I1003 (y := x1) (by omega) (by omega)
  refine leastA (by decide) (h0 := h1003) S1 S2 (nb := x2_1006) (by omega) (by omega) (lH0 I1003) c1004 F1006 (fun x2 x3 hc => ?_) _ v17 v19 rfl (by omega) (by omega) (by rw [show v19.toInt.toNat = 0 by omega]; show _ = ((0 : Nat) : Int); omega)
  refine wp1 (fun n d => r_iloadn f288_60 rfl) ?_
  refine w_bipush f288_61 (fun v61 hv61 => ?_)
  refine w_icmp_le f288_63 (fun e63 => ?_) (fun _ => w_bipush f288_66 (fun v _ => wp_end (fun n d => r_ireturn f288_68 rfl) (fin v _ _ I1003 (dG_sub (by decide) G1003))))
  refine wp1 (fun n d => r_aloadn f288_69 rfl) ?_
  refine w_iconst f288_70 (fun v70 hv70 => ?_)
  refine w_putI f288_71 c1004 I1003 (W := lW2) (lo := 0) (hi := 10) (by decide +kernel) (by decide) (by decide) (by omega) (by omega) (by decide) (by first | rfl | (simp [aok, zY])) (fun h2001 fs2001 I2001 G2001 c2001 Fx2001 nf2001 ne2001 => ?_)
  have F2002 := (nf2001 1 (by decide)).trans F1005
  have F2003 := (nf2001 2 (by decide)).trans F1006
  refine w_iconst f288_74 (fun v74 hv74 => ?_)
  refine wp1 (fun n d => r_istoren (L' := [some (.ref 72), some (.int x1), some (.int x2), some (.int v74), u4, u5, u6, u7]) f288_75 rfl rfl) ?_
  refine leastB (by decide) (x2 := x2) (nb := x2_1006) (h0 := h1003) I1003 S1 S2 (by omega) (by omega) (by omega) _ v74 v70 _ _ _ rfl (by omega) (by omega) I2001 G2001 c2001 F2003 Fx2001 (by rw [show v74.toInt.toNat = 0 by omega]; show _ = ((0 : Nat) : Int); omega) (fun σ1 h1 x3' I1 G1 => ?_)
  have E := ctail_s (C := cC206t) hX (cCMt_ok cCMy_t) Ty cy_206t (M := zM288) rfl (c := cC206t.2.2.2.2.2.headD (0, ([], [], ([], [], [], [], [], [], [])), (0, []))) List.mem_cons_self I1 (ρ := [0, x1.toInt]) (rh := []) (l := [some (.ref 72), some (.int x1), some (.int x2), some (.int x3'), u4, u5, u6, u7]) (sv := []) (dK_v (kV_of rfl ⟨⟨by decide, by decide⟩, ⟨by show (0 : Int) ≤ _; omega, by show _ ≤ (9 : Int); omega⟩, trivial⟩)) (dL_of ⟨lw_r (by decide), lw_i rfl, lw_0, lw_0, lw_0, lw_0, lw_0, lw_0, trivial⟩) trivial
  exact wp_dEnd (C0 := cC206) E rfl rfl rfl (dG_trans (dG_sub (by decide) G1003) (dG_sub (by decide) G1))

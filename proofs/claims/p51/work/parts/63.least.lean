-- ===== 63.least: 4 texts =====
section
-- ===== pieces of methods by the checker: from a cut on, to the end =====
theorem ctail_s {X : aX} {CT : List cC} {CM : List (List Nat)} {n k : Nat} {C : cC} (hX : X 0 = some (8, zab)) (hCM : ∀ (a : Nat) (js : List Nat), CM[a]? = some js → ∀ j, j ∈ js → ∀ C, CT[j]? = some C → C.1 = a) (HG : ∀ j, j < k → ∀ C, CT[j]? = some C → dGood X C) (g : C.2.2.2.2.2.all (fun c => crk0 c.2.1 c.2.2 && cseg (CT, CM, k, C.2.2.1, C.2.2.2.2.2, some c.2.2) C n c.1 c.2.1) = true) {M : aM} (hM : zmt[C.1]? = some M)
    {c : Nat × cT × cRk} (hc : c ∈ C.2.2.2.2.2) {l : aL} {sv : List Value} {h : aH} {σ : List Nat} {ρ : List Int} {rh : List Nat} (hI : dI σ h) (hK : dK σ h ρ rh c.2.1.2.2) (hL : dL ρ rh c.2.1.1 l) (hS : dS ρ rh c.2.1.2.1 sv) : dEnd X C M c.1 l sv σ h := by
  have seg : ∀ (r : Nat) (c : Nat × cT × cRk), c ∈ C.2.2.2.2.2 → ∀ (l : aL) (sv : List Value) (h : aH) (σ : List Nat) (ρ : List Int) (rh : List Nat) (w : Int), dI σ h → dK σ h ρ rh c.2.1.2.2 → dL ρ rh c.2.1.1 l → dS ρ rh c.2.1.2.1 sv → dRv ρ c.2.2.2 (w - c.2.2.1) → w < r → dEnd X C M c.1 l sv σ h := by
    intro r
    induction r with
    | zero =>
      intro c hc l sv h σ ρ rh w hI hK hL hS hw hr
      exfalso
      have := List.all_eq_true.mp g c hc
      rw [Bool.and_eq_true] at this
      have h1 := this.1
      unfold crk0 at h1
      rw [Bool.and_eq_true, cle_i] at h1
      have h1 := h1.1
      have h2 := clin_s hK (c.2.2.2.map (fun z => (-z.1, z.2)))
      have h3 : evL ρ (c.2.2.2.map (fun z => (-z.1, z.2))) = -evL ρ c.2.2.2 := by
        generalize c.2.2.2 = q
        induction q with
        | nil => rfl
        | cons u r ih =>
          simp only [List.map_cons, evL_cons, ih, Int.neg_mul]
          omega
      have h4 := evL_rv hw
      omega
    | succ r ih =>
      intro c hc l sv h σ ρ rh w hI hK hL hS hw hr
      have := List.all_eq_true.mp g c hc
      rw [Bool.and_eq_true] at this
      have h1 := this.2
      unfold cseg at h1
      rw [hM] at h1
      dsimp only at h1
      split at h1
      · rename_i es he
        have R := cx_s (zs := w) hX (Q := (CT, CM, k, C.2.2.1, C.2.2.2.2.2, some c.2.2)) HG hCM n C.2.1 true M _ _ _ _ _ he _ _ _ _ _ _ hI hK hL hS (fun s hs => by
          simp only [Option.some.injEq] at hs
          subst hs
          exact hw)
        rcases R with ⟨N, e, v, h', σ', ρ', rh', a1, a2, a3, a4, a5, a6, a7, a8⟩ | ⟨-, N, E, c', l', sv', h', σ', ρ', rh', a1, a2, a3, a4, a5, a6, a7, a8⟩
        · exact ⟨N, v, h', σ', a2, a3, a4, cpst_s h1 a1 a3.1 a5 a6⟩
        · obtain ⟨w', b1, b2⟩ := a8 (by simp)
          exact dEnd_of a2 a4 (ih c' a1 l' sv' h' σ' ρ' rh' w' a3 a5 a6 a7 b1 (by omega))
      · cases h1
  have hrt : ∀ u, u ∈ c.2.2.2 → ∃ y, ρ[u.2]? = some y := by
    have := List.all_eq_true.mp g c hc
    rw [Bool.and_eq_true] at this
    have h1 := this.1
    unfold crk0 at h1
    rw [Bool.and_eq_true] at h1
    intro u hu
    have h2 := List.all_eq_true.mp h1.2 u hu
    rw [Nat.blt_eq, ← hK.1.1] at h2
    exact ⟨_, List.getElem?_eq_getElem h2⟩
  have hv := evL_of hrt
  exact seg ((c.2.2.1 + evL ρ c.2.2.2).toNat + 1) c hc l sv h σ ρ rh (c.2.2.1 + evL ρ c.2.2.2) hI hK hL hS (by rw [show c.2.2.1 + evL ρ c.2.2.2 - c.2.2.1 = evL ρ c.2.2.2 by omega]; exact hv) (by omega)
theorem wp_dEnd {X : aX} {C C0 : cC} {M : aM} {pc : Nat} {l : aL} {sv : List Value} {σ σ0 : List Nat} {h h0 : aH} (e : dEnd X C M pc l sv σ h) (hlv : C.2.1 = C0.2.1) (hW : C.2.2.1 = C0.2.2.1) (hP : C.2.2.2.2.1 = C0.2.2.2.2.1) (G : dG C0.2.2.1 σ0 h0 σ h) : Wp X C0.2.1 M (hQ C0 σ0 h0) pc l sv h := by
  obtain ⟨N, v, h', σ', a1, a2, a3, a4⟩ := e
  rw [hW] at a3
  rw [hP] at a4
  rw [hlv] at a1
  exact ⟨N, v, h', ⟨σ', a2, dG_trans G a3, a4⟩, a1⟩
def cC312 : cC := (285, 0, [], ([(3, 72, .ofNat 0), (1, 1, .ofNat 0), (1, 2, .ofNat 0), (0, 0, .ofNat 0)], [], ([(.ofNat 0, .ofNat 0), (.ofNat 0, .ofNat 149), (.ofNat 0, .ofNat 2147483647)], [], [], [], [], [], [])), [([], [(1, 1, .ofNat 0)], ([(.ofNat 0, .ofNat 0), (.ofNat 0, .ofNat 1)], [], [], [], [], [], []))], [(2, ([(3, 72, .ofNat 0), (1, 1, .ofNat 0), (1, 2, .ofNat 0), (1, 3, .ofNat 0)], [], ([(.ofNat 0, .ofNat 0), (.ofNat 0, .ofNat 149), (.ofNat 0, .ofNat 2147483647), (.ofNat 0, .ofNat 10)], [], [], [], [], [], [])), (.ofNat 10, [(.negSucc 0, 3)]))])
def cC313 : cC := (286, 2, [], ([(3, 72, .ofNat 0), (1, 1, .ofNat 0), (1, 2, .ofNat 0), (0, 0, .ofNat 0), (0, 0, .ofNat 0)], [], ([(.ofNat 0, .ofNat 0), (.ofNat 0, .ofNat 2147483647), (.ofNat 0, .ofNat 9)], [], [], [], [], [], [])), [([], [(1, 1, .ofNat 0)], ([(.ofNat 0, .ofNat 0), (.ofNat 0, .ofNat 1)], [], [], [], [], [], []))], [(2, ([(3, 72, .ofNat 0), (1, 1, .ofNat 0), (1, 2, .ofNat 0), (1, 3, .ofNat 0), (0, 0, .ofNat 0)], [], ([(.ofNat 0, .ofNat 0), (.ofNat 0, .ofNat 2147483647), (.ofNat 0, .ofNat 9), (.ofNat 0, .ofNat 300)], [], [], [], [], [], [])), (.ofNat 90600, [(.negSucc 300, 3)])), (50, ([(3, 72, .ofNat 0), (1, 1, .ofNat 0), (1, 2, .ofNat 0), (1, 3, .ofNat 0), (1, 4, .ofNat 0)], [], ([(.ofNat 0, .ofNat 0), (.ofNat 0, .ofNat 2147483647), (.ofNat 0, .ofNat 9), (.ofNat 0, .ofNat 299), (.ofNat 1, .ofNat 300), (.ofNat 1, .ofNat 300)], [], [], [], [(72, 19, 1, 5, .ofNat 0)], [], [])), (.ofNat 90600, [(.negSucc 0, 4), (.negSucc 300, 3)]))])
def cC332 : cC := (287, 0, [], ([(1, 1, .ofNat 0), (0, 0, .ofNat 0), (0, 0, .ofNat 0)], [], ([(.ofNat 0, .ofNat 0), (.ofNat 0, .ofNat 2147483647)], [], [], [], [], [], [])), [([], [(1, 1, .ofNat 0)], ([(.ofNat 0, .ofNat 0), (.negSucc 2147483647, .ofNat 2147483647)], [], [], [], [], [], []))], [(4, ([(1, 1, .ofNat 0), (1, 2, .ofNat 0), (1, 3, .ofNat 0)], [], ([(.ofNat 0, .ofNat 0), (.ofNat 0, .ofNat 2147483647), (.negSucc 2147483647, .ofNat 2147483647), (.ofNat 0, .ofNat 2147483647)], [], [], [], [], [], [])), (.ofNat 0, [(.ofNat 1, 3)]))])
def cCTy : List cC := cCTx ++ [cC312, cC313, cC332]
def cCMy : List (List Nat) := ((cCMx.set 285 [216]).set 286 [217]).set 287 [218]
theorem cy_312 : cchk cCTy cCMy 3000 216 = true := by decide +kernel
theorem cy_313 : cchk cCTy cCMy 3000 217 = true := by decide +kernel
theorem cy_332 : cchk cCTy cCMy 3000 218 = true := by decide +kernel
def cC206t : cC := (288, 30, [(72, 38), (72, 39), (72, 79), (72, 81), (103, 0), (104, 0), (105, 0), (106, 0), (107, 0), (108, 0), (109, 0), (110, 0), (132, 0), (133, 0)], ([(3, 72, .ofNat 0), (1, 1, .ofNat 0), (0, 0, .ofNat 0), (0, 0, .ofNat 0), (0, 0, .ofNat 0), (0, 0, .ofNat 0), (0, 0, .ofNat 0), (0, 0, .ofNat 0)], [], ([(.ofNat 0, .ofNat 0), (.negSucc 2147483647, .ofNat 2147483647)], [], [], [], [], [], [])), [([], [(1, 1, .ofNat 0)], ([(.ofNat 0, .ofNat 0), (.negSucc 2147483647, .ofNat 2147483647)], [], [], [], [], [], []))], [(130, ([(3, 72, .ofNat 0), (1, 1, .ofNat 0), (0, 0, .ofNat 0), (0, 0, .ofNat 0), (0, 0, .ofNat 0), (0, 0, .ofNat 0), (0, 0, .ofNat 0), (0, 0, .ofNat 0)], [], ([(.ofNat 0, .ofNat 0), (.ofNat 0, .ofNat 9)], [], [], [], [], [], [])), (.ofNat 25769803787, [])), (138, ([(3, 72, .ofNat 0), (1, 1, .ofNat 0), (0, 0, .ofNat 0), (1, 2, .ofNat 0), (1, 3, .ofNat 0), (1, 4, .ofNat 0), (0, 0, .ofNat 0), (0, 0, .ofNat 0)], [], ([(.ofNat 0, .ofNat 0), (.ofNat 0, .ofNat 9), (.negSucc 0, .ofNat 2147483646), (.negSucc 2147483647, .ofNat 2147483647), (.ofNat 0, .ofNat 2147483647)], [(2, 4, .negSucc 0)], [], [], [], [], [])), (.ofNat 25769803786, [(.negSucc 11, 4)])), (155, ([(3, 72, .ofNat 0), (1, 1, .ofNat 0), (0, 0, .ofNat 0), (1, 2, .ofNat 0), (1, 3, .ofNat 0), (1, 4, .ofNat 0), (1, 5, .ofNat 0), (1, 6, .ofNat 0)], [], ([(.ofNat 0, .ofNat 0), (.ofNat 0, .ofNat 9), (.negSucc 0, .ofNat 2147483646), (.negSucc 2147483647, .ofNat 2147483647), (.ofNat 0, .ofNat 2147483646), (.negSucc 2147483647, .ofNat 2147483647), (.ofNat 0, .ofNat 10), (.ofNat 0, .ofNat 10)], [(2, 4, .negSucc 0), (6, 7, .ofNat 0)], [], [], [(72, 79, 1, 7, .ofNat 0)], [], [])), (.ofNat 25769803785, [(.negSucc 0, 6), (.negSucc 11, 4)])), (266, ([(3, 72, .ofNat 0), (1, 1, .ofNat 0), (0, 0, .ofNat 0), (1, 2, .ofNat 0), (1, 3, .ofNat 0), (1, 4, .ofNat 0), (0, 0, .ofNat 0), (0, 0, .ofNat 0)], [], ([(.ofNat 0, .ofNat 0), (.ofNat 0, .ofNat 9), (.negSucc 0, .ofNat 2147483646), (.negSucc 2147483647, .ofNat 2147483647), (.ofNat 0, .ofNat 10), (.ofNat 0, .ofNat 10), (.ofNat 0, .ofNat 10)], [(4, 6, .ofNat 0), (5, 4, .ofNat 0)], [], [], [(72, 81, 1, 5, .ofNat 0), (72, 79, 1, 6, .ofNat 0)], [], [])), (.ofNat 10, [(.negSucc 0, 4)]))])
theorem cy_206t : cC206t.2.2.2.2.2.all (fun c => crk0 c.2.1 c.2.2 && cseg (cCTy, cCMy, 219, cC206t.2.2.1, cC206t.2.2.2.2.2, some c.2.2) cC206t 3000 c.1 c.2.1) = true := by decide +kernel
def cCMt (CT : List cC) (CM : List (List Nat)) : Bool := (List.range CM.length).all (fun a => match CM[a]? with
  | some js => js.all (fun j => match CT[j]? with
    | some C => Nat.beq C.1 a
    | none => true)
  | none => true)
theorem cCMt_ok {CT : List cC} {CM : List (List Nat)} (k : cCMt CT CM = true) : ∀ (a : Nat) (js : List Nat), CM[a]? = some js → ∀ j, j ∈ js → ∀ C, CT[j]? = some C → C.1 = a := by
  intro a js h j hj C hC
  have ha : a < CM.length := (List.getElem?_eq_some_iff.mp h).1
  have h1 := List.all_eq_true.mp k a (List.mem_range.mpr ha)
  simp only [h] at h1
  have h2 := List.all_eq_true.mp h1 j hj
  simp only [hC] at h2
  exact Nat.eq_of_beq_eq_true h2
theorem cCMx_t : cCMt cCTx cCMx = true := by decide +kernel
theorem cCMy_t : cCMt cCTy cCMy = true := by decide +kernel
def hT (X : aX) (CT : List cC) (k : Nat) : Prop := ∀ j, j < k → ∀ C, CT[j]? = some C → dGood X C
theorem tstep {X : aX} {CT : List cC} {CM : List (List Nat)} {k : Nat} (hX : X 0 = some (8, zab)) (hM : cCMt CT CM = true) (h : hT X CT k) (c : cchk CT CM 3000 k = true) : hT X CT (k + 1) := by
  intro j hj C hC
  rcases Nat.lt_succ_iff_lt_or_eq.mp hj with q | rfl
  · exact h j q C hC
  · exact cchk_s hX (cCMt_ok hM) h c C hC
theorem cCT_len : (cCT.take 206).length = 206 := by decide +kernel
theorem hT_x {X : aX} (hX : X 0 = some (8, zab)) (g : hG X 206) : hT X cCTx 216 := by
  have g0 : hT X cCTx 206 := fun j hj C hC => g j hj C (by
    unfold cCTx at hC
    rw [List.getElem?_append_left (by rw [cCT_len]; exact hj), List.getElem?_take_of_lt hj] at hC
    exact hC)
  have g1 := tstep hX cCMx_t g0 cx_302
  have g2 := tstep hX cCMx_t g1 cx_303
  have g3 := tstep hX cCMx_t g2 cx_304
  have g4 := tstep hX cCMx_t g3 cx_305
  have g5 := tstep hX cCMx_t g4 cx_306
  have g6 := tstep hX cCMx_t g5 cx_307
  have g7 := tstep hX cCMx_t g6 cx_308
  have g8 := tstep hX cCMx_t g7 cx_309
  have g9 := tstep hX cCMx_t g8 cx_310
  exact tstep hX cCMx_t g9 cx_311
theorem cCTx_len : cCTx.length = 216 := by decide +kernel
theorem hT_y {X : aX} (hX : X 0 = some (8, zab)) (g : hT X cCTx 216) : hT X cCTy 219 := by
  have g0 : hT X cCTy 216 := fun j hj C hC => g j hj C (by
    unfold cCTy at hC
    rw [List.getElem?_append_left (by rw [cCTx_len]; exact hj)] at hC
    exact hC)
  exact tstep hX cCMy_t (tstep hX cCMy_t (tstep hX cCMy_t g0 cy_312) cy_313) cy_332
end
section
-- ===== by hand: least =====
theorem f288_0 : aF 0 zM288.2.2.2.2.2.2.2 = some (0, (.iload_n 1), 1, 0, 0) := by decide +kernel
theorem f288_1 : aF 1 zM288.2.2.2.2.2.2.2 = some (1, (.invokestatic 372), 3, 198, 0) := by decide +kernel
theorem f288_4 : aF 4 zM288.2.2.2.2.2.2.2 = some (4, (.ifCond .ne 5), 3, 9, 0) := by decide +kernel
theorem f288_7 : aF 7 zM288.2.2.2.2.2.2.2 = some (7, (.iconst (-1)), 1, 0, 0) := by decide +kernel
theorem f288_8 : aF 8 zM288.2.2.2.2.2.2.2 = some (8, .ireturn, 1, 0, 0) := by decide +kernel
theorem f288_9 : aF 9 zM288.2.2.2.2.2.2.2 = some (9, (.aload_n 0), 1, 0, 0) := by decide +kernel
theorem f288_10 : aF 10 zM288.2.2.2.2.2.2.2 = some (10, (.aload_n 0), 1, 0, 0) := by decide +kernel
theorem f288_11 : aF 11 zM288.2.2.2.2.2.2.2 = some (11, (.getfield 262), 3, 12, 1) := by decide +kernel
theorem f288_14 : aF 14 zM288.2.2.2.2.2.2.2 = some (14, (.invokevirtual 368), 3, 239, 0) := by decide +kernel
theorem f288_17 : aF 17 zM288.2.2.2.2.2.2.2 = some (17, (.iconst 0), 1, 0, 0) := by decide +kernel
theorem f288_18 : aF 18 zM288.2.2.2.2.2.2.2 = some (18, (.istore_n 2), 1, 0, 0) := by decide +kernel
theorem f288_19 : aF 19 zM288.2.2.2.2.2.2.2 = some (19, (.iconst 0), 1, 0, 0) := by decide +kernel
theorem f288_20 : aF 20 zM288.2.2.2.2.2.2.2 = some (20, (.istore_n 3), 1, 0, 0) := by decide +kernel
theorem f288_21 : aF 21 zM288.2.2.2.2.2.2.2 = some (21, (.iload_n 3), 1, 0, 0) := by decide +kernel
theorem f288_22 : aF 22 zM288.2.2.2.2.2.2.2 = some (22, (.aload_n 0), 1, 0, 0) := by decide +kernel
theorem f288_23 : aF 23 zM288.2.2.2.2.2.2.2 = some (23, (.getfield 265), 3, 12, 2) := by decide +kernel
theorem f288_26 : aF 26 zM288.2.2.2.2.2.2.2 = some (26, (.if_icmp .ge 34), 3, 60, 0) := by decide +kernel
theorem f288_29 : aF 29 zM288.2.2.2.2.2.2.2 = some (29, (.iload_n 2), 1, 0, 0) := by decide +kernel
theorem f288_30 : aF 30 zM288.2.2.2.2.2.2.2 = some (30, (.aload_n 0), 1, 0, 0) := by decide +kernel
theorem f288_31 : aF 31 zM288.2.2.2.2.2.2.2 = some (31, (.iload_n 3), 1, 0, 0) := by decide +kernel
theorem f288_32 : aF 32 zM288.2.2.2.2.2.2.2 = some (32, (.invokevirtual 322), 3, 203, 0) := by decide +kernel
theorem f288_35 : aF 35 zM288.2.2.2.2.2.2.2 = some (35, (.ifCond .eq 16), 3, 51, 0) := by decide +kernel
theorem f288_38 : aF 38 zM288.2.2.2.2.2.2.2 = some (38, (.aload_n 0), 1, 0, 0) := by decide +kernel
theorem f288_39 : aF 39 zM288.2.2.2.2.2.2.2 = some (39, (.iload_n 3), 1, 0, 0) := by decide +kernel
theorem f288_40 : aF 40 zM288.2.2.2.2.2.2.2 = some (40, (.iload_n 1), 1, 0, 0) := by decide +kernel
theorem f288_41 : aF 41 zM288.2.2.2.2.2.2.2 = some (41, (.invokevirtual 520), 3, 284, 0) := by decide +kernel
theorem f288_44 : aF 44 zM288.2.2.2.2.2.2.2 = some (44, (.ifCond .eq 7), 3, 51, 0) := by decide +kernel
theorem f288_47 : aF 47 zM288.2.2.2.2.2.2.2 = some (47, (.iconst 1), 1, 0, 0) := by decide +kernel
theorem f288_48 : aF 48 zM288.2.2.2.2.2.2.2 = some (48, (.goto 4), 3, 52, 0) := by decide +kernel
theorem f288_51 : aF 51 zM288.2.2.2.2.2.2.2 = some (51, (.iconst 0), 1, 0, 0) := by decide +kernel
theorem f288_52 : aF 52 zM288.2.2.2.2.2.2.2 = some (52, .iadd, 1, 0, 0) := by decide +kernel
theorem f288_53 : aF 53 zM288.2.2.2.2.2.2.2 = some (53, (.istore_n 2), 1, 0, 0) := by decide +kernel
theorem f288_54 : aF 54 zM288.2.2.2.2.2.2.2 = some (54, (.iinc 3 1), 3, 0, 0) := by decide +kernel
theorem f288_57 : aF 57 zM288.2.2.2.2.2.2.2 = some (57, (.goto (-36)), 3, 21, 0) := by decide +kernel
theorem f288_60 : aF 60 zM288.2.2.2.2.2.2.2 = some (60, (.iload_n 2), 1, 0, 0) := by decide +kernel
theorem f288_61 : aF 61 zM288.2.2.2.2.2.2.2 = some (61, (.bipush 10), 2, 0, 0) := by decide +kernel
theorem f288_63 : aF 63 zM288.2.2.2.2.2.2.2 = some (63, (.if_icmp .le 6), 3, 69, 0) := by decide +kernel
theorem f288_66 : aF 66 zM288.2.2.2.2.2.2.2 = some (66, (.bipush (-4)), 2, 0, 0) := by decide +kernel
theorem f288_68 : aF 68 zM288.2.2.2.2.2.2.2 = some (68, .ireturn, 1, 0, 0) := by decide +kernel
theorem f288_69 : aF 69 zM288.2.2.2.2.2.2.2 = some (69, (.aload_n 0), 1, 0, 0) := by decide +kernel
theorem f288_70 : aF 70 zM288.2.2.2.2.2.2.2 = some (70, (.iconst 0), 1, 0, 0) := by decide +kernel
theorem f288_71 : aF 71 zM288.2.2.2.2.2.2.2 = some (71, (.putfield 514), 3, 12, 79) := by decide +kernel
theorem f288_74 : aF 74 zM288.2.2.2.2.2.2.2 = some (74, (.iconst 0), 1, 0, 0) := by decide +kernel
theorem f288_75 : aF 75 zM288.2.2.2.2.2.2.2 = some (75, (.istore_n 3), 1, 0, 0) := by decide +kernel
theorem f288_76 : aF 76 zM288.2.2.2.2.2.2.2 = some (76, (.iload_n 3), 1, 0, 0) := by decide +kernel
theorem f288_77 : aF 77 zM288.2.2.2.2.2.2.2 = some (77, (.aload_n 0), 1, 0, 0) := by decide +kernel
theorem f288_78 : aF 78 zM288.2.2.2.2.2.2.2 = some (78, (.getfield 265), 3, 12, 2) := by decide +kernel
theorem f288_81 : aF 81 zM288.2.2.2.2.2.2.2 = some (81, (.if_icmp .ge 49), 3, 130, 0) := by decide +kernel
theorem f288_84 : aF 84 zM288.2.2.2.2.2.2.2 = some (84, (.aload_n 0), 1, 0, 0) := by decide +kernel
theorem f288_85 : aF 85 zM288.2.2.2.2.2.2.2 = some (85, (.iload_n 3), 1, 0, 0) := by decide +kernel
theorem f288_86 : aF 86 zM288.2.2.2.2.2.2.2 = some (86, (.invokevirtual 322), 3, 203, 0) := by decide +kernel
theorem f288_89 : aF 89 zM288.2.2.2.2.2.2.2 = some (89, (.ifCond .eq 35), 3, 124, 0) := by decide +kernel
theorem f288_92 : aF 92 zM288.2.2.2.2.2.2.2 = some (92, (.aload_n 0), 1, 0, 0) := by decide +kernel
theorem f288_93 : aF 93 zM288.2.2.2.2.2.2.2 = some (93, (.iload_n 3), 1, 0, 0) := by decide +kernel
theorem f288_94 : aF 94 zM288.2.2.2.2.2.2.2 = some (94, (.iload_n 1), 1, 0, 0) := by decide +kernel
theorem f288_95 : aF 95 zM288.2.2.2.2.2.2.2 = some (95, (.invokevirtual 520), 3, 284, 0) := by decide +kernel
theorem f288_98 : aF 98 zM288.2.2.2.2.2.2.2 = some (98, (.ifCond .ne 6), 3, 104, 0) := by decide +kernel
theorem f288_101 : aF 101 zM288.2.2.2.2.2.2.2 = some (101, (.goto 23), 3, 124, 0) := by decide +kernel
theorem f288_104 : aF 104 zM288.2.2.2.2.2.2.2 = some (104, (.aload_n 0), 1, 0, 0) := by decide +kernel
theorem f288_105 : aF 105 zM288.2.2.2.2.2.2.2 = some (105, (.getfield 201), 3, 12, 80) := by decide +kernel
theorem f288_108 : aF 108 zM288.2.2.2.2.2.2.2 = some (108, (.aload_n 0), 1, 0, 0) := by decide +kernel
theorem f288_109 : aF 109 zM288.2.2.2.2.2.2.2 = some (109, (.getfield 514), 3, 12, 79) := by decide +kernel
theorem f288_112 : aF 112 zM288.2.2.2.2.2.2.2 = some (112, (.iload_n 3), 1, 0, 0) := by decide +kernel
theorem f288_113 : aF 113 zM288.2.2.2.2.2.2.2 = some (113, .iastore, 1, 0, 0) := by decide +kernel
theorem f288_114 : aF 114 zM288.2.2.2.2.2.2.2 = some (114, (.aload_n 0), 1, 0, 0) := by decide +kernel
theorem f288_115 : aF 115 zM288.2.2.2.2.2.2.2 = some (115, .dup, 1, 0, 0) := by decide +kernel
theorem f288_116 : aF 116 zM288.2.2.2.2.2.2.2 = some (116, (.getfield 514), 3, 12, 79) := by decide +kernel
theorem f288_119 : aF 119 zM288.2.2.2.2.2.2.2 = some (119, (.iconst 1), 1, 0, 0) := by decide +kernel
theorem f288_120 : aF 120 zM288.2.2.2.2.2.2.2 = some (120, .iadd, 1, 0, 0) := by decide +kernel
theorem f288_121 : aF 121 zM288.2.2.2.2.2.2.2 = some (121, (.putfield 514), 3, 12, 79) := by decide +kernel
theorem f288_124 : aF 124 zM288.2.2.2.2.2.2.2 = some (124, (.iinc 3 1), 3, 0, 0) := by decide +kernel
theorem f288_127 : aF 127 zM288.2.2.2.2.2.2.2 = some (127, (.goto (-51)), 3, 76, 0) := by decide +kernel
theorem lkH_of {σ : List Nat} {h : aH} (I : dI σ h) {F A : List Nat} (k : (F.all (fun f => match cRT[72]? with
  | some t => (match t.2.2.2.2.2[f]? with
    | some ty => Nat.beq ty.1 0 || (Nat.beq ty.1 1 && A.contains ty.2.1.toNat && Nat.blt ty.2.1.toNat 146)
    | none => false)
  | none => false) && A.all (fun r => match cRT[r]? with
  | some t => (Nat.beq t.1 1 || Nat.beq t.1 2) && Nat.blt r 146
  | none => false)) = true) : lkH F A h h := by
  rw [Bool.and_eq_true] at k
  obtain ⟨k1, k2⟩ := k
  obtain ⟨fs, c⟩ := hI_o I (r := 72) (ci := 12) (by decide +kernel)
  refine ⟨fs, fs, c, c, fun f hf => ⟨rfl, fun v hv => ?_⟩, fun r hr => ⟨rfl, ?_⟩⟩
  · have h1 := List.all_eq_true.mp k1 f hf
    cases ht : cRT[72]? with
    | none => rw [ht] at h1; cases h1
    | some t =>
      rw [ht] at h1
      dsimp only at h1
      cases hty : t.2.2.2.2.2[f]? with
      | none => rw [hty] at h1; cases h1
      | some ty =>
        rw [hty] at h1
        dsimp only at h1
        have ht0 : t.1 = 0 ∧ t.2.1 = 12 := by
          have q : tkO 72 12 = true := by decide +kernel
          unfold tkO at q
          rw [ht] at q
          dsimp only at q
          rw [Bool.and_eq_true, Bool.and_eq_true] at q
          exact ⟨Nat.eq_of_beq_eq_true q.1.1, Nat.eq_of_beq_eq_true q.1.2⟩
        obtain ⟨fs', a1, a2, a3⟩ := dI_o I (r := 72) (by decide) ht ht0.1
        rw [ht0.2, c] at a1
        cases a1
        obtain ⟨v', b1, b2⟩ := a3 f ty hty
        cases hv.symm.trans b1
        rw [Bool.or_eq_true] at h1
        rcases h1 with e | e
        · obtain ⟨x, rfl, -, -⟩ := dT_i b2 (Nat.eq_of_beq_eq_true e)
          exact trivial
        · rw [Bool.and_eq_true, Bool.and_eq_true, Nat.blt_eq] at e
          have := dT_r I.1 b2 (Nat.eq_of_beq_eq_true e.1.1) e.2
          rw [this]
          exact Or.inr (List.contains_iff_mem.mp e.1.2)
  · have h1 := List.all_eq_true.mp k2 r hr
    cases ht : cRT[r]? with
    | none => rw [ht] at h1; cases h1
    | some t =>
      rw [ht] at h1
      dsimp only at h1
      rw [Bool.and_eq_true, Bool.or_eq_true, Nat.blt_eq] at h1
      rcases h1.1 with e | e
      · obtain ⟨g, a, -⟩ := dI_a I h1.2 ht (Nat.eq_of_beq_eq_true e)
        exact ⟨_, a⟩
      · obtain ⟨g, a, -⟩ := dI_j I h1.2 ht (Nat.eq_of_beq_eq_true e)
        exact ⟨_, a⟩
theorem lkH_dG {σ σ' : List Nat} {h h' : aH} {F A : List Nat} {W : List (Nat × Nat)} (HH : lkH F A h h) (H : dH σ h) (G : dG W σ h σ' h') (k : (F.all (fun f => !cWn W 72 f) && A.all (fun r => !cWn W r 0 && Nat.blt r 146)) = true) : lkH F A h h' := by
  rw [Bool.and_eq_true] at k
  obtain ⟨k1, k2⟩ := k
  obtain ⟨fs, fs0, c, c0, q1, q2⟩ := HH
  cases c.symm.trans c0
  obtain ⟨fs1, d, dfs⟩ := dG_o H G c (by decide)
  refine ⟨fs, fs1, c, d, fun f hf => ⟨dfs f ?_, (q1 f hf).2⟩, fun r hr => ?_⟩
  · have := List.all_eq_true.mp k1 f hf
    rw [Bool.not_eq_true'] at this
    exact this
  · have := List.all_eq_true.mp k2 r hr
    rw [Bool.and_eq_true, Bool.not_eq_true', Nat.blt_eq] at this
    obtain ⟨-, x, e⟩ := q2 r hr
    exact ⟨(dG_a H G e this.2 this.1).trans e.symm, x, e⟩
def pA (X : aX) (lv a : Nat) (l : aL) (h : aH) (v : Int32) : Prop := ∃ (Y : aM) (N : Nat), zmt[a]? = some Y ∧ ∀ n d, arun X (n + N) (d + lv) Y 0 l [] h = some (some (.int v), h)
theorem pA_of {X : aX} {C : cC} {Y : aM} {F A SM : List Nat} {lo hi : Int} (G : dGood X C) (hY : zmt[C.1]? = some Y) {σ : List Nat} {h : aH} (I : dI σ h) {ρ : List Int} {l1 : aL} (K : dK σ h ρ [] C.2.2.2.1.2.2) (L : dL ρ [] C.2.2.2.1.1 l1) (hA : lkAll F SM = true) (hS : SM.contains C.1 = true) (HH : lkH F A h h) (hl : lkL A l1) (e : C.2.2.2.2.1 = [([], [(1, 1, 0)], ([(0, 0), (lo, hi)], [], [], [], [], [], []))]) :
    ∃ v : Int32, lo ≤ v.toInt ∧ v.toInt ≤ hi ∧ ∀ h', lkH F A h h' → pA X C.2.1 C.1 l1 h' v := by
  obtain ⟨N, v, h1, σ1, e1, e2, e3, e4⟩ := G Y hY l1 h σ ρ [] I K L
  obtain ⟨x, rfl, p, q⟩ := rpost_i e4 e
  refine ⟨x, p, q, fun h' H' => ⟨Y, N, hY, fun n d => ?_⟩⟩
  exact (lk_run hA H' _ _ _ _ _ _ _ _ (lkM_of hA hS hY) hl lkS_nil (e1 n d)).2.2
theorem wp_pA {X : aX} {D : Nat} {M Y : aM} {Q : Option Value → aH → Prop} {pc pc' a lv : Nat} {l l' l1 : aL} {st r : List Value} {h : aH} {v : Int32} (hY : zmt[a]? = some Y) (k1 : pA X lv a l1 h v) (hs : ∀ (n d : Nat) (v : Option Value) (h1 : aH), arun X n d Y 0 l1 [] h = some (v, h1) → arun X (n + 1) (d + 1) M pc l st h = arun X n (d + 1) M pc' l' (v.toList ++ r) h1) (hd : lv + 1 ≤ D) (k : Wp X D M Q pc' l' (.int v :: r) h) : Wp X D M Q pc l st h := by
  obtain ⟨Y', N, hY', hr⟩ := k1
  cases hY.symm.trans hY'
  exact wp_call (fun n d e => hs n d _ _ e) hd hr k
theorem lkL_ri {A : List Nat} : ∀ (xs : List Int32) (n : Nat), lkL A (some (.ref 72) :: (xs.map (fun x => some (Value.int x)) ++ List.replicate n none)) := by
  intro xs n
  refine lkL_cons (fun v e => by cases e; exact Or.inl rfl) ?_
  induction xs with
  | nil =>
    intro i v e
    have e := aG_get.mp e
    simp only [List.map_nil, List.nil_append, List.getElem?_replicate] at e
    split at e <;> cases e
  | cons x r ih => exact lkL_cons (fun v e => by cases e; exact trivial) ih
def lF : List Nat := [2, 3, 10, 19, 20, 21, 23, 40]
def lA : List Nat := [73, 80, 87, 88, 90, 103]
def lS : List Nat := [196, 200, 201, 203, 229, 282, 283, 284]
def lW2 : List (Nat × Nat) := [(72, 79), (132, 0)]
theorem lAll : lkAll lF lS = true := by decide +kernel
theorem lH0 {σ : List Nat} {h : aH} (I : dI σ h) : lkH lF lA h h := lkH_of I (by decide +kernel)
theorem lH1 {σ σ' : List Nat} {h h' : aH} (I : dI σ h) (G : dG lW2 σ h σ' h') : lkH lF lA h h' := lkH_dG (lH0 I) I.1 G (by decide +kernel)
theorem isf_of {X : aX} (G3 : dGood X cC303) {σ : List Nat} {h : aH} (I : dI σ h) : ∃ f : Nat → Int32, ∀ (b : Int32), 0 ≤ b.toInt → b.toInt ≤ 149 → ∀ h', lkH lF lA h h' → pA X 2 203 [some (.ref 72), some (.int b)] h' (f b.toInt.toNat) := by
  have : ∀ n : Nat, ∃ v : Int32, n ≤ 149 → ∀ b : Int32, b.toInt = n → ∀ h', lkH lF lA h h' → pA X 2 203 [some (.ref 72), some (.int b)] h' v := by
    intro n
    by_cases hn : n ≤ 149
    · have e : (Int32.ofInt n).toInt = n := Int32.toInt_ofInt_of_le (by omega) (by omega)
      obtain ⟨v, -, -, q⟩ := pA_of G3 (Y := zM203) rfl I (ρ := [0, (Int32.ofInt n).toInt]) (l1 := [some (.ref 72), some (.int (Int32.ofInt n))]) (dK_v (kV_of rfl ⟨⟨by decide, by decide⟩, ⟨by show (0 : Int) ≤ _; omega, by show _ ≤ (149 : Int); omega⟩, trivial⟩)) (dL_of ⟨lw_r (by decide), lw_i rfl, trivial⟩) lAll (by decide) (lH0 I) (lkL_ri [Int32.ofInt n] 0) rfl
      refine ⟨v, fun _ b hb h' H => ?_⟩
      have : b = Int32.ofInt n := b_i.mpr (by omega)
      rw [this]
      exact q h' H
    · exact ⟨0, fun q => absurd q hn⟩
  obtain ⟨f, hf⟩ := Classical.skolem.mp this
  exact ⟨f, fun b h1 h2 h' H => hf b.toInt.toNat (by omega) b (by omega) h' H⟩
theorem tro_of {X : aX} (G7 : dGood X cC307) {σ : List Nat} {h : aH} (I : dI σ h) {y : Int32} (y0 : 0 ≤ y.toInt) (y1 : y.toInt ≤ 9) : ∃ f : Nat → Int32, ∀ (b : Int32), 0 ≤ b.toInt → b.toInt ≤ 149 → ∀ h', lkH lF lA h h' → pA X 2 284 [some (.ref 72), some (.int b), some (.int y), none, none] h' (f b.toInt.toNat) := by
  have : ∀ n : Nat, ∃ v : Int32, n ≤ 149 → ∀ b : Int32, b.toInt = n → ∀ h', lkH lF lA h h' → pA X 2 284 [some (.ref 72), some (.int b), some (.int y), none, none] h' v := by
    intro n
    by_cases hn : n ≤ 149
    · have e : (Int32.ofInt n).toInt = n := Int32.toInt_ofInt_of_le (by omega) (by omega)
      obtain ⟨v, -, -, q⟩ := pA_of G7 (Y := zM284) rfl I (ρ := [0, (Int32.ofInt n).toInt, y.toInt]) (l1 := [some (.ref 72), some (.int (Int32.ofInt n)), some (.int y), none, none]) (dK_v (kV_of rfl ⟨⟨by decide, by decide⟩, ⟨by show (0 : Int) ≤ _; omega, by show _ ≤ (149 : Int); omega⟩, ⟨by show (0 : Int) ≤ _; omega, by show _ ≤ (9 : Int); omega⟩, trivial⟩)) (dL_of ⟨lw_r (by decide), lw_i rfl, lw_i rfl, lw_0, lw_0, trivial⟩) lAll (by decide) (lH0 I) (lkL_ri [Int32.ofInt n, y] 2) rfl
      refine ⟨v, fun _ b hb h' H => ?_⟩
      have : b = Int32.ofInt n := b_i.mpr (by omega)
      rw [this]
      exact q h' H
    · exact ⟨0, fun q => absurd q hn⟩
  obtain ⟨f, hf⟩ := Classical.skolem.mp this
  exact ⟨f, fun b h1 h2 h' H => hf b.toInt.toNat (by omega) b (by omega) h' H⟩
def lsT (f1 f2 : Nat → Int32) (b : Nat) : Int32 := if (f1 b).toInt ≠ 0 ∧ (f2 b).toInt ≠ 0 then 1 else 0
theorem lsT_1 {f1 f2 : Nat → Int32} {b : Nat} (h1 : (f1 b).toInt ≠ 0) (h2 : (f2 b).toInt ≠ 0) : cntN (lsT f1 f2) (b + 1) = cntN (lsT f1 f2) b + 1 := by
  have e : lsT f1 f2 b = 1 := by unfold lsT; rw [if_pos ⟨h1, h2⟩]
  show cntN _ b + (if (lsT f1 f2 b).toInt = 0 then 0 else 1) = _
  rw [e, if_neg (by decide)]
theorem lsT_0 {f1 f2 : Nat → Int32} {b : Nat} (h : (f1 b).toInt = 0 ∨ (f2 b).toInt = 0) : cntN (lsT f1 f2) (b + 1) = cntN (lsT f1 f2) b := by
  have e : lsT f1 f2 b = 0 := by
    unfold lsT
    rw [if_neg]
    rintro ⟨q1, q2⟩
    rcases h with q | q
    · exact q1 q
    · exact q2 q
  show cntN _ b + (if (lsT f1 f2 b).toInt = 0 then 0 else 1) = _
  rw [e, if_pos (by decide)]
  omega
theorem leastA {X : aX} {D : Nat} (hD : 3 ≤ D) {Q : Option Value → aH → Prop} {x1 nb : Int32} {u4 u5 u6 u7 : Option Value} {h0 h : aH} {fs : List Value} {f1 f2 : Nat → Int32} (S1 : ∀ (b : Int32), 0 ≤ b.toInt → b.toInt ≤ 149 → ∀ h', lkH lF lA h0 h' → pA X 2 203 [some (.ref 72), some (.int b)] h' (f1 b.toInt.toNat)) (S2 : ∀ (b : Int32), 0 ≤ b.toInt → b.toInt ≤ 149 → ∀ h', lkH lF lA h0 h' → pA X 2 284 [some (.ref 72), some (.int b), some (.int x1), none, none] h' (f2 b.toInt.toNat)) (n0 : 0 ≤ nb.toInt) (n1 : nb.toInt ≤ 150) (lk : lkH lF lA h0 h) (c72 : h.1[72]? = some (.inr (12, fs))) (F72_2 : fs[2]? = some (.int nb))
    (kq : ∀ (x2' x3' : Int32), x2'.toInt = cntN (lsT f1 f2) nb.toInt.toNat → Wp X D zM288 Q 60 [some (.ref 72), some (.int x1), some (.int x2'), some (.int x3'), u4, u5, u6, u7] [] h) : ∀ (k : Nat) (x2 x3 : Int32), (nb.toInt - x3.toInt).toNat = k → 0 ≤ x3.toInt → x3.toInt ≤ nb.toInt → x2.toInt = cntN (lsT f1 f2) x3.toInt.toNat → Wp X D zM288 Q 21 [some (.ref 72), some (.int x1), some (.int x2), some (.int x3), u4, u5, u6, u7] [] h := by
  intro k
  induction k with
  | zero =>
    intro x2 x3 hk a0 a1 hc
    refine wp1 (fun n d => r_iloadn f288_21 rfl) ?_
    refine wp1 (fun n d => r_aloadn f288_22 rfl) ?_
    refine w_get f288_23 c72 F72_2 ?_
    refine w_icmp_ge f288_26 (fun e => kq x2 x3 ?_) (fun e => absurd e (by omega))
    rw [show nb.toInt.toNat = x3.toInt.toNat by omega]
    exact hc
  | succ k ih =>
    intro x2 x3 hk a0 a1 hc
    have hle := cntN_le (lsT f1 f2) x3.toInt.toNat
    refine wp1 (fun n d => r_iloadn f288_21 rfl) ?_
    refine wp1 (fun n d => r_aloadn f288_22 rfl) ?_
    refine w_get f288_23 c72 F72_2 ?_
    refine w_icmp_ge f288_26 (fun e26 => absurd e26 (by omega)) (fun e26 => ?_)
    have k52 : ∀ v : Int32, 0 ≤ v.toInt → v.toInt ≤ 1 → x2.toInt + v.toInt = cntN (lsT f1 f2) (x3.toInt.toNat + 1) → Wp X D zM288 Q 52 [some (.ref 72), some (.int x1), some (.int x2), some (.int x3), u4, u5, u6, u7] [.int v, .int x2] h := by
      intro v v0 v1 hv
      refine w_iadd f288_52 (by omega) (by omega) (fun v52 hv52 => ?_)
      refine wp1 (fun n d => r_istoren (L' := [some (.ref 72), some (.int x1), some (.int v52), some (.int x3), u4, u5, u6, u7]) f288_53 rfl rfl) ?_
      refine w_iinc f288_54 rfl (by omega) (by omega) (fun v54 hv54 => ?_)
      show Wp _ _ _ _ 57 [some (.ref 72), some (.int x1), some (.int v52), some (.int v54), u4, u5, u6, u7] [] _
      refine wp1 (fun n d => r_goto f288_57) ?_
      exact ih v52 v54 (by omega) (by omega) (by omega) (by rw [show v54.toInt.toNat = x3.toInt.toNat + 1 by omega]; omega)
    have k51 : (f1 x3.toInt.toNat).toInt = 0 ∨ (f2 x3.toInt.toNat).toInt = 0 → Wp X D zM288 Q 51 [some (.ref 72), some (.int x1), some (.int x2), some (.int x3), u4, u5, u6, u7] [.int x2] h := by
      intro q
      refine w_iconst f288_51 (fun v hv => ?_)
      exact k52 v (by omega) (by omega) (by rw [lsT_0 q]; omega)
    refine wp1 (fun n d => r_iloadn f288_29 rfl) ?_
    refine wp1 (fun n d => r_aloadn f288_30 rfl) ?_
    refine wp1 (fun n d => r_iloadn f288_31 rfl) ?_
    refine wp_pA (Y := zM203) (r := [.int x2]) (show zmt[203]? = some zM203 from rfl) (S1 x3 (by omega) (by omega) _ lk) (fun n d v h' e => r_virt (as := [.int x3]) (r := [.int x2]) f288_32 c72 (show zmt[203]? = some zM203 from rfl) rfl rfl rfl rfl rfl rfl e) (by omega) ?_
    show Wp _ _ _ _ 35 [some (.ref 72), some (.int x1), some (.int x2), some (.int x3), u4, u5, u6, u7] [.int (f1 x3.toInt.toNat), .int x2] _
    refine w_if_eq f288_35 (fun e35 => k51 (Or.inl e35)) (fun e35 => ?_)
    refine wp1 (fun n d => r_aloadn f288_38 rfl) ?_
    refine wp1 (fun n d => r_iloadn f288_39 rfl) ?_
    refine wp1 (fun n d => r_iloadn f288_40 rfl) ?_
    refine wp_pA (Y := zM284) (r := [.int x2]) (show zmt[284]? = some zM284 from rfl) (S2 x3 (by omega) (by omega) _ lk) (fun n d v h' e => r_virt (as := [.int x3, .int x1]) (r := [.int x2]) f288_41 c72 (show zmt[284]? = some zM284 from rfl) rfl rfl rfl rfl rfl rfl e) (by omega) ?_
    show Wp _ _ _ _ 44 [some (.ref 72), some (.int x1), some (.int x2), some (.int x3), u4, u5, u6, u7] [.int (f2 x3.toInt.toNat), .int x2] _
    refine w_if_eq f288_44 (fun e44 => k51 (Or.inr e44)) (fun e44 => ?_)
    refine w_iconst f288_47 (fun v47 hv47 => ?_)
    refine wp1 (fun n d => r_goto f288_48) ?_
    exact k52 v47 (by omega) (by omega) (by rw [lsT_1 e35 e44]; omega)
theorem leastB {X : aX} {D : Nat} (hD : 3 ≤ D) {Q : Option Value → aH → Prop} {x1 nb : Int32} {x2 : Int32} {u4 u5 u6 u7 : Option Value} {σ0 : List Nat} {h0 : aH} {f1 f2 : Nat → Int32} (I0 : dI σ0 h0) (S1 : ∀ (b : Int32), 0 ≤ b.toInt → b.toInt ≤ 149 → ∀ h', lkH lF lA h0 h' → pA X 2 203 [some (.ref 72), some (.int b)] h' (f1 b.toInt.toNat)) (S2 : ∀ (b : Int32), 0 ≤ b.toInt → b.toInt ≤ 149 → ∀ h', lkH lF lA h0 h' → pA X 2 284 [some (.ref 72), some (.int b), some (.int x1), none, none] h' (f2 b.toInt.toNat)) (n0 : 0 ≤ nb.toInt) (n1 : nb.toInt ≤ 150) (h10 : cntN (lsT f1 f2) nb.toInt.toNat ≤ 10) : ∀ (k : Nat) (x3 tr : Int32) (σ : List Nat) (h : aH) (fs : List Value), (nb.toInt - x3.toInt).toNat = k → 0 ≤ x3.toInt → x3.toInt ≤ nb.toInt → dI σ h → dG lW2 σ0 h0 σ h → h.1[72]? = some (.inr (12, fs)) → fs[2]? = some (.int nb) → fs[79]? = some (.int tr) → tr.toInt = cntN (lsT f1 f2) x3.toInt.toNat →
    (∀ (σ' : List Nat) (h' : aH) (x3' : Int32), dI σ' h' → dG lW2 σ0 h0 σ' h' → Wp X D zM288 Q 130 [some (.ref 72), some (.int x1), some (.int x2), some (.int x3'), u4, u5, u6, u7] [] h') → Wp X D zM288 Q 76 [some (.ref 72), some (.int x1), some (.int x2), some (.int x3), u4, u5, u6, u7] [] h := by
  intro k
  induction k with
  | zero =>
    intro x3 tr σ h fs hk a0 a1 I G c72 F72_2 F72_79 hc kq
    refine wp1 (fun n d => r_iloadn f288_76 rfl) ?_
    refine wp1 (fun n d => r_aloadn f288_77 rfl) ?_
    refine w_get f288_78 c72 F72_2 ?_
    exact w_icmp_ge f288_81 (fun e => kq σ h x3 I G) (fun e => absurd e (by omega))
  | succ k ih =>
    intro x3 tr σ h fs hk a0 a1 I G c72 F72_2 F72_79 hc kq
    have hle := cntN_le (lsT f1 f2) x3.toInt.toNat
    refine wp1 (fun n d => r_iloadn f288_76 rfl) ?_
    refine wp1 (fun n d => r_aloadn f288_77 rfl) ?_
    refine w_get f288_78 c72 F72_2 ?_
    refine w_icmp_ge f288_81 (fun e81 => absurd e81 (by omega)) (fun e81 => ?_)
    have hm := cntN_mono (lsT f1 f2) (x3.toInt.toNat + 1) nb.toInt.toNat (by omega)
    have k124 : ∀ (h1 : aH) (fs1 : List Value) (t1 : Int32), dI σ h1 → dG lW2 σ0 h0 σ h1 → h1.1[72]? = some (.inr (12, fs1)) → fs1[2]? = some (.int nb) → fs1[79]? = some (.int t1) → t1.toInt = cntN (lsT f1 f2) (x3.toInt.toNat + 1) → Wp X D zM288 Q 124 [some (.ref 72), some (.int x1), some (.int x2), some (.int x3), u4, u5, u6, u7] [] h1 := by
      intro h1 fs1 t1 I1 G1 d72 E2 E79 ht
      refine w_iinc f288_124 rfl (by omega) (by omega) (fun v124 hv124 => ?_)
      show Wp _ _ _ _ 127 [some (.ref 72), some (.int x1), some (.int x2), some (.int v124), u4, u5, u6, u7] [] _
      refine wp1 (fun n d => r_goto f288_127) ?_
      exact ih v124 t1 σ h1 fs1 (by omega) (by omega) (by omega) I1 G1 d72 E2 E79 (by rw [show v124.toInt.toNat = x3.toInt.toNat + 1 by omega]; exact ht) kq
    have k124' : (f1 x3.toInt.toNat).toInt = 0 ∨ (f2 x3.toInt.toNat).toInt = 0 → Wp X D zM288 Q 124 [some (.ref 72), some (.int x1), some (.int x2), some (.int x3), u4, u5, u6, u7] [] h := fun q => k124 h fs tr I G c72 F72_2 F72_79 (by rw [lsT_0 q]; exact hc)
    refine wp1 (fun n d => r_aloadn f288_84 rfl) ?_
    refine wp1 (fun n d => r_iloadn f288_85 rfl) ?_
    refine wp_pA (Y := zM203) (r := []) (show zmt[203]? = some zM203 from rfl) (S1 x3 (by omega) (by omega) _ (lH1 I0 G)) (fun n d v h' e => r_virt (as := [.int x3]) (r := []) f288_86 c72 (show zmt[203]? = some zM203 from rfl) rfl rfl rfl rfl rfl rfl e) (by omega) ?_
    show Wp _ _ _ _ 89 [some (.ref 72), some (.int x1), some (.int x2), some (.int x3), u4, u5, u6, u7] [.int (f1 x3.toInt.toNat)] _
    refine w_if_eq f288_89 (fun e89 => k124' (Or.inl e89)) (fun e89 => ?_)
    refine wp1 (fun n d => r_aloadn f288_92 rfl) ?_
    refine wp1 (fun n d => r_iloadn f288_93 rfl) ?_
    refine wp1 (fun n d => r_iloadn f288_94 rfl) ?_
    refine wp_pA (Y := zM284) (r := []) (show zmt[284]? = some zM284 from rfl) (S2 x3 (by omega) (by omega) _ (lH1 I0 G)) (fun n d v h' e => r_virt (as := [.int x3, .int x1]) (r := []) f288_95 c72 (show zmt[284]? = some zM284 from rfl) rfl rfl rfl rfl rfl rfl e) (by omega) ?_
    show Wp _ _ _ _ 98 [some (.ref 72), some (.int x1), some (.int x2), some (.int x3), u4, u5, u6, u7] [.int (f2 x3.toInt.toNat)] _
    refine w_if_ne f288_98 (fun e98 => ?_) (fun e98 => ?_)
    rotate_left
    · refine wp1 (fun n d => r_goto f288_101) ?_
      exact k124' (Or.inr e98)
    have h1 := lsT_1 e89 e98
    refine wp1 (fun n d => r_aloadn f288_104 rfl) ?_
    have F1001 := hI_r I c72 (f := 80) (q := 132) (by decide +kernel)
    refine w_get f288_105 c72 F1001 ?_
    refine wp1 (fun n d => r_aloadn f288_108 rfl) ?_
    refine w_get f288_109 c72 F72_79 ?_
    refine wp1 (fun n d => r_iloadn f288_112 rfl) ?_
    obtain ⟨g1002, c1002, R1002⟩ := hI_a I (r := 132) (a := 0) (n := 10) (lo := 0) (hi := 149) (by decide +kernel)
    refine w_iastI f288_113 c1002 (by omega) (by omega) I (W := lW2) (lo := 0) (hi := 149) (by decide +kernel) (by decide) (by omega) (by omega) (fun h1003 I1003 G1003 c1003 ne1003 => ?_)
    obtain ⟨g1003, hg1003⟩ : ∃ g', g' = upd g1002 tr.toInt.toNat x3 := ⟨_, rfl⟩
    rw [← hg1003] at c1003
    have c1004 := (ne1003 72 (by decide)).trans c72
    refine wp1 (fun n d => r_aloadn f288_114 rfl) ?_
    refine wp1 (fun n d => r_dup f288_115 rfl) ?_
    refine w_get f288_116 c1004 F72_79 ?_
    refine w_iconst f288_119 (fun v119 hv119 => ?_)
    refine w_iadd f288_120 (by omega) (by omega) (fun v120 hv120 => ?_)
    refine w_putI f288_121 c1004 I1003 (W := lW2) (lo := 0) (hi := 10) (by decide +kernel) (by decide) (by decide) (by omega) (by omega) (by decide) (by first | rfl | (simp [aok, zY])) (fun h1005 fs1005 I1005 G1005 c1005 Fx1005 nf1005 ne1005 => ?_)
    have c1006 := (ne1005 132 (by decide)).trans c1003
    have F1007 := (nf1005 2 (by decide)).trans F72_2
    have F1008 := (nf1005 80 (by decide)).trans F1001
    exact k124 h1005 fs1005 v120 I1005 (dG_trans (dG_trans G G1003) G1005) c1005 F1007 Fx1005 (by omega)
theorem hand_206 {X : aX} (hX : X 0 = some (8, zab)) (T : hT X cCTx 216) (G71 : dGood X cC71) : dGood X cC206 := by
  have G3 : dGood X cC303 := T 207 (by decide) _ rfl
  have G7 : dGood X cC307 := T 211 (by decide) _ rfl
  have Ty := hT_y hX T
  intro M hM l h σ ρ rh I K L
  have hM0 : zmt[288]? = some zM288 := rfl
  cases (show zmt[288]? = some M from hM).symm.trans hM0
  have a0 := dL_r L (i := 0) (c := 72) (o := 0) rfl (by decide)
  obtain ⟨x1, a1, b1, b1'⟩ := hL_i L K.1 (i := 1) (p := 1) (o := 0) (lo := -2147483648) (hi := 2147483647) rfl rfl
  obtain ⟨u0, l1, rfl, e1⟩ := hcons (show l.length = 8 from L.1)
  obtain ⟨u1, l2, rfl, e2⟩ := hcons e1
  obtain ⟨u2, l3, rfl, e3⟩ := hcons e2
  obtain ⟨u3, l4, rfl, e4⟩ := hcons e3
  obtain ⟨u4, l5, rfl, e5⟩ := hcons e4
  obtain ⟨u5, l6, rfl, e6⟩ := hcons e5
  obtain ⟨u6, l7, rfl, e7⟩ := hcons e6
  obtain ⟨u7, l8, rfl, e8⟩ := hcons e7
  cases hnil e8
  cases Option.some.inj a0
  cases Option.some.inj a1
  have fin : ∀ (x : Int32) (σ' : List Nat) (h' : aH), dI σ' h' → dG cC206.2.2.1 σ h σ' h' → hQ cC206 σ h (some (.int x)) h' := fun x σ' h' I' G' => ⟨σ', I', G', _, List.mem_cons_self, post_i I'.1 (iR x).1 (iR x).2⟩
  refine hEnd ?_
  show Wp X 30 zM288 _ 0 [some (.ref 72), some (.int x1), u2, u3, u4, u5, u6, u7] [] h
  refine wp1 (fun n d => r_iloadn f288_0 rfl) ?_
  refine wp_in (lv := 1) (Y := zM198) (isYear_wp (x := x1)) (fun n d v h' e => r_stat (as := [.int x1]) (r := []) f288_1 rfl (show zmt[198]? = some zM198 from rfl) rfl rfl rfl rfl rfl rfl e) (by first | decide | omega) ?_
  rintro v h' ⟨rfl, v1, rfl, z1, r1⟩
  show Wp _ _ _ _ 4 [some (.ref 72), some (.int x1), u2, u3, u4, u5, u6, u7] [.int v1] _
  refine w_if_ne f288_4 (fun e4 => ?_) (fun _ => w_iconst f288_7 (fun v _ => wp_end (fun n d => r_ireturn f288_8 rfl) (fin v σ h I (dG_refl _ _ _))))
  have R1 := r1 (by omega)
  refine wp1 (fun n d => r_aloadn f288_9 rfl) ?_
  refine wp1 (fun n d => r_aloadn f288_10 rfl) ?_
  obtain ⟨fs1001, c1001⟩ := hI_o I (r := 72) (ci := 12) (by decide +kernel)
  obtain ⟨x1_1002, F1002, lo1002, hi1002⟩ := hI_i I c1001 (f := 1) (lo := 0) (hi := 3649) (by decide +kernel)
  refine w_get f288_11 c1001 F1002 ?_
  refine wp_good G71 (Y := zM239) (show zmt[239]? = some zM239 from rfl) I (ρ := [0, x1_1002.toInt]) (dK_v (kV_of rfl ⟨⟨by decide, by decide⟩, ⟨by show (0 : Int) ≤ _; omega, by show _ ≤ (3649 : Int); omega⟩, trivial⟩)) (dL_of (l := [some (.ref 72), some (.int x1_1002), none, none, none]) ⟨lw_r (by decide), lw_i rfl, lw_0, lw_0, lw_0, trivial⟩) (fun n d v h' e => r_virt (as := [.int x1_1002]) (r := []) f288_14 c1001 (show zmt[239]? = some zM239 from rfl) rfl rfl rfl rfl rfl rfl e) (by first | decide | (show 3 + 1 ≤ _; omega)) (fun v h1003 σ1003 I1003 G1003 P1003 => ?_)
  cases rpost_0 P1003 rfl
  show Wp _ _ _ _ 17 [some (.ref 72), some (.int x1), u2, u3, u4, u5, u6, u7] [] _
  obtain ⟨fs1004, c1004, df1004⟩ := dG_o I.1 G1003 c1001 (by decide)
  have F1005 := (df1004 1 rfl).trans F1002
  obtain ⟨x2_1006, F1006, lo1006, hi1006⟩ := hI_i I1003 c1004 (f := 2) (lo := 0) (hi := 150) (by decide +kernel)
  refine w_iconst f288_17 (fun v17 hv17 => ?_)
  refine wp1 (fun n d => r_istoren (L' := [some (.ref 72), some (.int x1), some (.int v17), u3, u4, u5, u6, u7]) f288_18 rfl rfl) ?_
  refine w_iconst f288_19 (fun v19 hv19 => ?_)
  refine wp1 (fun n d => r_istoren (L' := [some (.ref 72), some (.int x1), some (.int v17), some (.int v19), u4, u5, u6, u7]) f288_20 rfl rfl) ?_
  obtain ⟨f1, S1⟩ := isf_of G3 I1003
  obtain ⟨f2, S2⟩ := tro_of G7 I1003 (y := x1) (by omega) (by omega)
  refine leastA (by decide) (h0 := h1003) S1 S2 (nb := x2_1006) (by omega) (by omega) (lH0 I1003) c1004 F1006 (fun x2 x3 hc => ?_) _ v17 v19 rfl (by omega) (by omega) (by rw [show v19.toInt.toNat = 0 by omega]; show _ = ((0 : Nat) : Int); omega)
  refine wp1 (fun n d => r_iloadn f288_60 rfl) ?_
  refine w_bipush f288_61 (fun v61 hv61 => ?_)
  refine w_icmp_le f288_63 (fun e63 => ?_) (fun _ => w_bipush f288_66 (fun v _ => wp_end (fun n d => r_ireturn f288_68 rfl) (fin v _ _ I1003 (dG_sub (by decide) G1003))))
  refine wp1 (fun n d => r_aloadn f288_69 rfl) ?_
  refine w_iconst f288_70 (fun v70 hv70 => ?_)
  refine w_putI f288_71 c1004 I1003 (W := lW2) (lo := 0) (hi := 10) (by decide +kernel) (by decide) (by decide) (by omega) (by omega) (by decide) (by first | rfl | (simp [aok, zY])) (fun h2001 fs2001 I2001 G2001 c2001 Fx2001 nf2001 ne2001 => ?_)
  have F2002 := (nf2001 1 (by decide)).trans F1005
  have F2003 := (nf2001 2 (by decide)).trans F1006
  refine w_iconst f288_74 (fun v74 hv74 => ?_)
  refine wp1 (fun n d => r_istoren (L' := [some (.ref 72), some (.int x1), some (.int x2), some (.int v74), u4, u5, u6, u7]) f288_75 rfl rfl) ?_
  refine leastB (by decide) (x2 := x2) (nb := x2_1006) (h0 := h1003) I1003 S1 S2 (by omega) (by omega) (by omega) _ v74 v70 _ _ _ rfl (by omega) (by omega) I2001 G2001 c2001 F2003 Fx2001 (by rw [show v74.toInt.toNat = 0 by omega]; show _ = ((0 : Nat) : Int); omega) (fun σ1 h1 x3' I1 G1 => ?_)
  have E := ctail_s (C := cC206t) hX (cCMt_ok cCMy_t) Ty cy_206t (M := zM288) rfl (c := cC206t.2.2.2.2.2.headD (0, ([], [], ([], [], [], [], [], [], [])), (0, []))) List.mem_cons_self I1 (ρ := [0, x1.toInt]) (rh := []) (l := [some (.ref 72), some (.int x1), some (.int x2), some (.int x3'), u4, u5, u6, u7]) (sv := []) (dK_v (kV_of rfl ⟨⟨by decide, by decide⟩, ⟨by show (0 : Int) ≤ _; omega, by show _ ≤ (9 : Int); omega⟩, trivial⟩)) (dL_of ⟨lw_r (by decide), lw_i rfl, lw_0, lw_0, lw_0, lw_0, lw_0, lw_0, trivial⟩) trivial
  exact wp_dEnd (C0 := cC206) E rfl rfl rfl (dG_trans (dG_sub (by decide) G1003) (dG_sub (by decide) G1))
end
section
-- ===== by hand: sums, parts of a whole =====
def sumN (f : Nat → Int) : Nat → Int
  | 0 => 0
  | n + 1 => sumN f n + f n
theorem sumN_congr {f g : Nat → Int} : ∀ n, (∀ j, j < n → f j = g j) → sumN f n = sumN g n
  | 0, _ => rfl
  | n + 1, h => by
    show sumN f n + f n = sumN g n + g n
    rw [sumN_congr n (fun j hj => h j (by omega)), h n (by omega)]
theorem sumN_bd {f : Nat → Int} {B : Nat} : ∀ n, (∀ j, j < n → -(B : Int) ≤ f j ∧ f j ≤ B) → -((n * B : Nat) : Int) ≤ sumN f n ∧ sumN f n ≤ ((n * B : Nat) : Int)
  | 0, _ => by show -((0 * B : Nat) : Int) ≤ 0 ∧ (0 : Int) ≤ ((0 * B : Nat) : Int); rw [Nat.zero_mul]; exact ⟨by omega, by omega⟩
  | n + 1, h => by
    have h1 := sumN_bd (f := f) (B := B) n (fun j hj => h j (by omega))
    have h2 := h n (by omega)
    have e : (n + 1) * B = n * B + B := by rw [Nat.add_mul, Nat.one_mul]
    rw [e]
    show _ ≤ sumN f n + f n ∧ sumN f n + f n ≤ _
    omega
def cntP (p : Nat → Bool) : Nat → Nat
  | 0 => 0
  | n + 1 => cntP p n + (if p n = true then 1 else 0)
theorem cntP_le (p : Nat → Bool) : ∀ n, cntP p n ≤ n
  | 0 => Nat.le_refl _
  | n + 1 => by
    have := cntP_le p n
    show cntP p n + (if p n = true then 1 else 0) ≤ n + 1
    split <;> omega
theorem cntP_imp {p q : Nat → Bool} : ∀ n, (∀ j, j < n → p j = true → q j = true) → cntP p n ≤ cntP q n
  | 0, _ => Nat.le_refl _
  | n + 1, h => by
    have h1 := cntP_imp (p := p) (q := q) n (fun j hj => h j (by omega))
    show cntP p n + (if p n = true then 1 else 0) ≤ cntP q n + (if q n = true then 1 else 0)
    by_cases e : p n = true
    · rw [if_pos e, if_pos (h n (by omega) e)]; omega
    · rw [if_neg e]; omega
theorem cntP_upd {p q : Nat → Bool} {k : Nat} (hk : p k = true) (h : ∀ j, j ≠ k → p j = true → q j = true) : ∀ n, k < n → cntP p n ≤ cntP q n + 1
  | 0, hn => by omega
  | n + 1, hn => by
    show cntP p n + (if p n = true then 1 else 0) ≤ cntP q n + (if q n = true then 1 else 0) + 1
    by_cases e : k = n
    · subst e
      have := cntP_imp (p := p) (q := q) k (fun j hj => h j (by omega))
      rw [if_pos hk]
      omega
    · have := cntP_upd hk h n (by omega)
      by_cases e2 : p n = true
      · rw [if_pos e2, if_pos (h n (fun q => e q.symm) e2)]; omega
      · rw [if_neg e2]; omega
theorem mul_bd {v w A B : Int} (v0 : 0 ≤ v) (v1 : v ≤ A) (w0 : -B ≤ w) (w1 : w ≤ B) (b0 : 0 ≤ B) : -(A * B) ≤ v * w ∧ v * w ≤ A * B := by
  have h1 : v * w ≤ v * B := Int.mul_le_mul_of_nonneg_left w1 v0
  have h2 : v * B ≤ A * B := Int.mul_le_mul_of_nonneg_right v1 b0
  have h3 : v * (-B) ≤ v * w := Int.mul_le_mul_of_nonneg_left w0 v0
  rw [Int.mul_neg] at h3
  omega
theorem parts_le {v all : Int} {w : Nat → Int} (ha : 0 < all) : ∀ n, v * sumN w n - all * sumN (fun j => (v * w j).tdiv all) n ≤ (all - 1) * (cntP (fun j => decide (w j ≠ 0)) n : Nat) ∧ -(all - 1) * (cntP (fun j => decide (w j ≠ 0)) n : Nat) ≤ v * sumN w n - all * sumN (fun j => (v * w j).tdiv all) n
  | 0 => by
    show v * 0 - all * 0 ≤ (all - 1) * ((0 : Nat) : Int) ∧ -(all - 1) * ((0 : Nat) : Int) ≤ v * 0 - all * 0
    simp
  | n + 1 => by
    obtain ⟨h1, h2⟩ := parts_le (v := v) (w := w) ha n
    have e := Int.mul_tdiv_add_tmod (v * w n) all
    have t1 := Int.tmod_lt_of_pos (v * w n) ha
    have t2 := Int.lt_tmod_of_pos (v * w n) ha
    show v * (sumN w n + w n) - all * (sumN (fun j => (v * w j).tdiv all) n + (v * w n).tdiv all) ≤ (all - 1) * ((cntP (fun j => decide (w j ≠ 0)) n + (if decide (w n ≠ 0) = true then 1 else 0) : Nat) : Int) ∧ -(all - 1) * ((cntP (fun j => decide (w j ≠ 0)) n + (if decide (w n ≠ 0) = true then 1 else 0) : Nat) : Int) ≤ v * (sumN w n + w n) - all * (sumN (fun j => (v * w j).tdiv all) n + (v * w n).tdiv all)
    rw [Int.mul_add, Int.mul_add]
    generalize v * sumN w n = a at *
    generalize all * sumN (fun j => (v * w j).tdiv all) n = b at *
    by_cases q : w n = 0
    · rw [if_neg (by simp [q]), Nat.add_zero]
      rw [q, Int.mul_zero, Int.zero_tdiv, Int.mul_zero]
      omega
    · rw [if_pos (by simp [q])]
      generalize cntP (fun j => decide (w j ≠ 0)) n = c at *
      have e1 : (all - 1) * ((c + 1 : Nat) : Int) = (all - 1) * (c : Int) + (all - 1) := by
        rw [Int.natCast_add, Int.mul_add]; omega
      have e2 : -(all - 1) * ((c + 1 : Nat) : Int) = -(all - 1) * (c : Int) - (all - 1) := by
        rw [Int.natCast_add, Int.mul_add]; omega
      rw [e1, e2]
      generalize (all - 1) * (c : Int) = p at *
      generalize -(all - 1) * (c : Int) = p' at *
      generalize all * (v * w n).tdiv all = x at *
      generalize v * w n = y at *
      omega
theorem parts_end {v all : Int} {w : Nat → Int} {n : Nat} (ha : 0 < all) (hs : sumN w n = all) : -((cntP (fun j => decide (w j ≠ 0)) n : Nat) : Int) ≤ v - sumN (fun j => (v * w j).tdiv all) n ∧ v - sumN (fun j => (v * w j).tdiv all) n ≤ ((cntP (fun j => decide (w j ≠ 0)) n : Nat) : Int) := by
  obtain ⟨h1, h2⟩ := parts_le (v := v) (w := w) ha n
  rw [hs] at h1 h2
  generalize sumN (fun j => (v * w j).tdiv all) n = s at *
  generalize cntP (fun j => decide (w j ≠ 0)) n = c at *
  have e : v * all - all * s = all * (v - s) := by rw [Int.mul_sub, Int.mul_comm v all]
  rw [e] at h1 h2
  have hc : (all - 1) * (c : Int) ≤ all * (c : Int) := Int.mul_le_mul_of_nonneg_right (by omega) (by omega)
  have hc2 : all * (-(c : Int)) ≤ -(all - 1) * (c : Int) := by
    rw [Int.mul_neg, Int.neg_mul]
    omega
  exact ⟨Int.le_of_mul_le_mul_left (Int.le_trans hc2 h2) ha, Int.le_of_mul_le_mul_left (Int.le_trans h1 hc) ha⟩
theorem lw_c {ρ : List Int} {x : Int32} {o : Int} (e : ρ[0]? = some 0) (hx : x.toInt = o) : (1 : Nat) = 0 ∨ ∃ u, some (Value.int x) = some u ∧ dW ρ [] (1, 0, o) u := Or.inr ⟨_, rfl, x, 0, rfl, e, by show _ = 0 + o; omega⟩
section WJ
variable {X : aX} {D : Nat} {M : aM} {Q : Option Value → aH → Prop} {pc len a b : Nat} {l : aL} {r : List Value} {h : aH}
theorem w_ldivt {x y : Int64} (hf : aF pc M.2.2.2.2.2.2.2 = some (pc, .ldiv, len, a, b)) (h1 : 1 ≤ y.toInt) (k : ∀ z : Int64, z.toInt = x.toInt.tdiv y.toInt → Wp X D M Q (pc + 1) l (.long z :: r) h) : Wp X D M Q pc l (.long y :: .long x :: r) h := by
  have t := tdiv_b (x := x.toInt) (y := y.toInt) h1
  have g := jR x
  have e : (x / y).toInt = x.toInt.tdiv y.toInt := j_div (by omega) (by omega)
  exact wp1 (fun n d => r_ldiv hf (fun q => by rw [q] at h1; exact absurd h1 (by decide)) rfl) (k _ e)
theorem w_lrem' {x y : Int64} (hf : aF pc M.2.2.2.2.2.2.2 = some (pc, .lrem, len, a, b)) (h1 : 1 ≤ y.toInt) (k : ∀ z : Int64, Wp X D M Q (pc + 1) l (.long z :: r) h) : Wp X D M Q pc l (.long y :: .long x :: r) h :=
  wp1 (fun n d => r_lrem hf (fun q => by rw [q] at h1; exact absurd h1 (by decide)) rfl) (k _)
theorem w_lsubm {x y : Int64} (hf : aF pc M.2.2.2.2.2.2.2 = some (pc, .lsub, len, a, b)) (k : ∀ z : Int64, z.toInt = (x.toInt - y.toInt).bmod (2 ^ 64) → Wp X D M Q (pc + 1) l (.long z :: r) h) : Wp X D M Q pc l (.long y :: .long x :: r) h :=
  wp1 (fun n d => r_lsub hf rfl) (k _ (Int64.toInt_sub _ _))
end WJ
end
section
-- ===== contracts that want no other contract =====
def cC314 : cC := (201, 0, [], ([(1, 1, .ofNat 0), (1, 2, .ofNat 0)], [], ([(.ofNat 0, .ofNat 0), (.negSucc 2147483647, .ofNat 2147483647), (.negSucc 2147483647, .ofNat 2147483647)], [], [], [], [], [], [])), [([], [(1, 1, .ofNat 0)], ([(.ofNat 0, .ofNat 0), (.ofNat 0, .ofNat 1)], [], [], [], [], [], []))], [])
def cC315 : cC := (267, 0, [], ([(1, 1, .ofNat 0), (1, 2, .ofNat 0), (1, 3, .ofNat 0)], [], ([(.ofNat 0, .ofNat 0), (.negSucc 2147483647, .ofNat 2147483647), (.negSucc 2147483647, .ofNat 2147483647), (.negSucc 2147483647, .ofNat 2147483647)], [], [], [], [], [], [])), [([], [(1, 1, .ofNat 0)], ([(.ofNat 0, .ofNat 0), (.negSucc 2147483647, .ofNat 2147483647)], [], [], [], [], [], []))], [])
def cC316 : cC := (255, 0, [], ([(1, 1, .ofNat 0)], [], ([(.ofNat 0, .ofNat 0), (.negSucc 2147483647, .ofNat 2147483647)], [], [], [], [], [], [])), [([], [(1, 1, .ofNat 0)], ([(.ofNat 0, .ofNat 0), (.negSucc 0, .ofNat 12)], [], [], [], [], [], []))], [])
def cC317 : cC := (332, 0, [(154, 0)], ([(3, 1000, .ofNat 0), (1, 1, .ofNat 0), (0, 0, .ofNat 0), (0, 0, .ofNat 0)], [], ([(.ofNat 0, .ofNat 0), (.ofNat 1000, .ofNat 1000)], [], [], [154], [], [], [])), [([], [], ([(.ofNat 0, .ofNat 0)], [], [], [], [], [], []))], [(5, ([(3, 1000, .ofNat 0), (1, 1, .ofNat 0), (1, 2, .ofNat 0), (1, 0, .ofNat 60)], [], ([(.ofNat 0, .ofNat 0), (.ofNat 1000, .ofNat 1000), (.ofNat 0, .ofNat 60)], [], [], [154], [], [], [])), (.ofNat 60, [(.negSucc 0, 2)]))])
def cC318 : cC := (271, 2, [], ([(3, 72, .ofNat 0), (1, 1, .ofNat 0), (1, 2, .ofNat 0), (0, 0, .ofNat 0), (0, 0, .ofNat 0)], [], ([(.ofNat 0, .ofNat 0), (.ofNat 0, .ofNat 149), (.ofNat 0, .ofNat 9)], [], [], [], [], [], [])), [([], [(1, 1, .ofNat 0)], ([(.ofNat 0, .ofNat 0), (.negSucc 2147483647, .ofNat 3649)], [], [], [], [], [], []))], [])
def cC319 : cC := (229, 0, [], ([(3, 72, .ofNat 0), (1, 1, .ofNat 0)], [], ([(.ofNat 0, .ofNat 0), (.ofNat 0, .ofNat 299)], [], [], [], [], [], [])), [([], [(1, 1, .ofNat 0)], ([(.ofNat 0, .ofNat 0), (.negSucc 5883515, .ofNat 5883516)], [], [], [], [], [], []))], [])
def cC320 : cC := (240, 0, [], ([(3, 72, .ofNat 0), (1, 1, .ofNat 0), (0, 0, .ofNat 0)], [], ([(.ofNat 0, .ofNat 0), (.ofNat 0, .ofNat 299)], [], [], [], [], [], [])), [([], [(1, 1, .ofNat 0)], ([(.ofNat 0, .ofNat 0), (.ofNat 0, .ofNat 2147483647)], [], [], [], [], [], []))], [])
def cC321 : cC := (273, 0, [], ([(3, 72, .ofNat 0), (1, 1, .ofNat 0), (1, 2, .ofNat 0), (1, 3, .ofNat 0)], [], ([(.ofNat 0, .ofNat 0), (.ofNat 0, .ofNat 149), (.ofNat 0, .ofNat 9), (.negSucc 2147483647, .ofNat 2147483647)], [], [], [], [], [], [])), [([], [(1, 1, .ofNat 0)], ([(.ofNat 0, .ofNat 0), (.ofNat 0, .ofNat 1)], [], [], [], [], [], []))], [])
def cC322 : cC := (212, 0, [], ([(1, 1, .ofNat 0), (1, 2, .ofNat 0)], [], ([(.ofNat 0, .ofNat 0), (.negSucc 2147483647, .ofNat 2147483647), (.negSucc 2147483647, .ofNat 2147483647)], [], [], [], [], [], [])), [([], [(1, 1, .ofNat 0)], ([(.ofNat 0, .ofNat 0), (.negSucc 2147483647, .ofNat 2147483647)], [], [], [], [], [], []))], [])
def cC323 : cC := (265, 0, [], ([(3, 72, .ofNat 0), (1, 1, .ofNat 0), (1, 2, .ofNat 0), (1, 3, .ofNat 0), (0, 0, .ofNat 0)], [], ([(.ofNat 0, .ofNat 0), (.ofNat 0, .ofNat 149), (.ofNat 0, .ofNat 9), (.ofNat 0, .ofNat 3649)], [], [], [], [], [], [])), [([], [(1, 1, .ofNat 0)], ([(.ofNat 0, .ofNat 0), (.negSucc 1, .ofNat 15)], [], [], [], [], [], []))], [(8, ([(3, 72, .ofNat 0), (1, 1, .ofNat 0), (1, 2, .ofNat 0), (1, 3, .ofNat 0), (1, 4, .negSucc 0)], [], ([(.ofNat 0, .ofNat 0), (.ofNat 0, .ofNat 149), (.ofNat 0, .ofNat 9), (.ofNat 0, .ofNat 3649), (.ofNat 0, .ofNat 16), (.ofNat 0, .ofNat 16)], [], [], [], [(72, 55, 1, 5, .ofNat 0)], [], [])), (.ofNat 0, [(.ofNat 1, 4)]))])
def cCT0 : List cC := [cC302, cC303, cC311, cC314, cC315, cC316, cC317, cC157, cC318, cC319, cC320, cC321, cC322, cC323]
def cCM0 : List (List Nat) := (List.replicate 333 []).set 270 [7]
theorem c0_302 : cchk cCT0 cCM0 3000 0 = true := by decide +kernel
theorem c0_303 : cchk cCT0 cCM0 3000 1 = true := by decide +kernel
theorem c0_311 : cchk cCT0 cCM0 3000 2 = true := by decide +kernel
theorem c0_314 : cchk cCT0 cCM0 3000 3 = true := by decide +kernel
theorem c0_315 : cchk cCT0 cCM0 3000 4 = true := by decide +kernel
theorem c0_316 : cchk cCT0 cCM0 3000 5 = true := by decide +kernel
theorem c0_317 : cchk cCT0 cCM0 3000 6 = true := by decide +kernel
theorem c0_157 : cchk cCT0 cCM0 3000 7 = true := by decide +kernel
theorem c0_318 : cchk cCT0 cCM0 3000 8 = true := by decide +kernel
theorem c0_319 : cchk cCT0 cCM0 3000 9 = true := by decide +kernel
theorem c0_320 : cchk cCT0 cCM0 3000 10 = true := by decide +kernel
theorem c0_321 : cchk cCT0 cCM0 3000 11 = true := by decide +kernel
theorem c0_322 : cchk cCT0 cCM0 3000 12 = true := by decide +kernel
theorem c0_323 : cchk cCT0 cCM0 3000 13 = true := by decide +kernel
theorem cCM0_t : cCMt cCT0 cCM0 = true := by decide +kernel
theorem hT_0 {X : aX} (hX : X 0 = some (8, zab)) : hT X cCT0 14 := by
  have g0 : hT X cCT0 0 := fun j hj => absurd hj (by omega)
  have g1 := tstep hX cCM0_t g0 c0_302
  have g2 := tstep hX cCM0_t g1 c0_303
  have g3 := tstep hX cCM0_t g2 c0_311
  have g4 := tstep hX cCM0_t g3 c0_314
  have g5 := tstep hX cCM0_t g4 c0_315
  have g6 := tstep hX cCM0_t g5 c0_316
  have g7 := tstep hX cCM0_t g6 c0_317
  have g8 := tstep hX cCM0_t g7 c0_157
  have g9 := tstep hX cCM0_t g8 c0_318
  have g10 := tstep hX cCM0_t g9 c0_319
  have g11 := tstep hX cCM0_t g10 c0_320
  have g12 := tstep hX cCM0_t g11 c0_321
  have g13 := tstep hX cCM0_t g12 c0_322
  have g14 := tstep hX cCM0_t g13 c0_323
  exact g14
end

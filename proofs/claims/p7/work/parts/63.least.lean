-- ===== pieces of methods by the checker: from a cut on, to the end =====
theorem ctail_s {X : aX} {CT : List cC} {CM : List (List Nat)} {n k : Nat} {C : cC} (hX : X 0 = some (8, zab)) (hCM : ∀ (a : Nat) (js : List Nat), CM[a]? = some js → ∀ j, j ∈ js → ∀ C, CT[j]? = some C → C.1 = a) (HG : ∀ j, j < k → ∀ C, CT[j]? = some C → dGood X C) (g : C.2.2.2.2.2.all (fun c => crk0 c.2.1 c.2.2 && cseg (CT, CM, k, C.2.2.1, C.2.2.2.2.2, some c.2.2) C n c.1 c.2.1) = true) {M : aM} (hM : zmt[C.1]? = some M)
    {c : Nat × cT × cRk} (hc : c ∈ C.2.2.2.2.2) {l : aL} {sv : List Value} {h : aH} {σ : List Nat} {ρ : List Int} {rh : List Nat} (hI : dI σ h) (hK : dK σ h ρ rh c.2.1.2.2) (hL : dL ρ rh c.2.1.1 l) (hS : dS ρ rh c.2.1.2.1 sv) : dEnd X C M c.1 l sv σ h := by
  have seg : ∀ (r : Nat) (c : Nat × cT × cRk), c ∈ C.2.2.2.2.2 → ∀ (l : aL) (sv : List Value) (h : aH) (σ : List Nat) (ρ : List Int) (rh : List Nat) (w : Int), dI σ h → dK σ h ρ rh c.2.1.2.2 → dL ρ rh c.2.1.1 l → dS ρ rh c.2.1.2.1 sv → dRv ρ c.2.2.2 (w - c.2.2.1) → w < r → dEnd X C M c.1 l sv σ h := by
    intro r
    induction r with
    | zero =>
      intro c hc l sv h σ ρ rh w hI hK hL hS hw hr
      exfalso
      have := List.all_eq_true.mp g c hc
      rw [Bool.and_eq_true] at this
      have h1 := this.1
      unfold crk0 at h1
      rw [Bool.and_eq_true, cle_i] at h1
      have h1 := h1.1
      have h2 := clin_s hK (c.2.2.2.map (fun z => (-z.1, z.2)))
      have h3 : evL ρ (c.2.2.2.map (fun z => (-z.1, z.2))) = -evL ρ c.2.2.2 := by
        generalize c.2.2.2 = q
        induction q with
        | nil => rfl
        | cons u r ih =>
          simp only [List.map_cons, evL_cons, ih, Int.neg_mul]
          omega
      have h4 := evL_rv hw
      omega
    | succ r ih =>
      intro c hc l sv h σ ρ rh w hI hK hL hS hw hr
      have := List.all_eq_true.mp g c hc
      rw [Bool.and_eq_true] at this
      have h1 := this.2
      unfold cseg at h1
      rw [hM] at h1
      dsimp only at h1
      split at h1
      · rename_i es he
        have R := cx_s (zs := w) hX (Q := (CT, CM, k, C.2.2.1, C.2.2.2.2.2, some c.2.2)) HG hCM n C.2.1 true M _ _ _ _ _ he _ _ _ _ _ _ hI hK hL hS (fun s hs => by
          simp only [Option.some.injEq] at hs
          subst hs
          exact hw)
        rcases R with ⟨N, e, v, h', σ', ρ', rh', a1, a2, a3, a4, a5, a6, a7, a8⟩ | ⟨-, N, E, c', l', sv', h', σ', ρ', rh', a1, a2, a3, a4, a5, a6, a7, a8⟩
        · exact ⟨N, v, h', σ', a2, a3, a4, cpst_s h1 a1 a3.1 a5 a6⟩
        · obtain ⟨w', b1, b2⟩ := a8 (by simp)
          exact dEnd_of a2 a4 (ih c' a1 l' sv' h' σ' ρ' rh' w' a3 a5 a6 a7 b1 (by omega))
      · cases h1
  have hrt : ∀ u, u ∈ c.2.2.2 → ∃ y, ρ[u.2]? = some y := by
    have := List.all_eq_true.mp g c hc
    rw [Bool.and_eq_true] at this
    have h1 := this.1
    unfold crk0 at h1
    rw [Bool.and_eq_true] at h1
    intro u hu
    have h2 := List.all_eq_true.mp h1.2 u hu
    rw [Nat.blt_eq, ← hK.1.1] at h2
    exact ⟨_, List.getElem?_eq_getElem h2⟩
  have hv := evL_of hrt
  exact seg ((c.2.2.1 + evL ρ c.2.2.2).toNat + 1) c hc l sv h σ ρ rh (c.2.2.1 + evL ρ c.2.2.2) hI hK hL hS (by rw [show c.2.2.1 + evL ρ c.2.2.2 - c.2.2.1 = evL ρ c.2.2.2 by omega]; exact hv) (by omega)
theorem wp_dEnd {X : aX} {C C0 : cC} {M : aM} {pc : Nat} {l : aL} {sv : List Value} {σ σ0 : List Nat} {h h0 : aH} (e : dEnd X C M pc l sv σ h) (hlv : C.2.1 = C0.2.1) (hW : C.2.2.1 = C0.2.2.1) (hP : C.2.2.2.2.1 = C0.2.2.2.2.1) (G : dG C0.2.2.1 σ0 h0 σ h) : Wp X C0.2.1 M (hQ C0 σ0 h0) pc l sv h := by
  obtain ⟨N, v, h', σ', a1, a2, a3, a4⟩ := e
  rw [hW] at a3
  rw [hP] at a4
  rw [hlv] at a1
  exact ⟨N, v, h', ⟨σ', a2, dG_trans G a3, a4⟩, a1⟩
def cC312 : cC := (285, 0, [], ([(3, 72, .ofNat 0), (1, 1, .ofNat 0), (1, 2, .ofNat 0), (0, 0, .ofNat 0)], [], ([(.ofNat 0, .ofNat 0), (.ofNat 0, .ofNat 149), (.ofNat 0, .ofNat 2147483647)], [], [], [], [], [], [])), [([], [(1, 1, .ofNat 0)], ([(.ofNat 0, .ofNat 0), (.ofNat 0, .ofNat 1)], [], [], [], [], [], []))], [(2, ([(3, 72, .ofNat 0), (1, 1, .ofNat 0), (1, 2, .ofNat 0), (1, 3, .ofNat 0)], [], ([(.ofNat 0, .ofNat 0), (.ofNat 0, .ofNat 149), (.ofNat 0, .ofNat 2147483647), (.ofNat 0, .ofNat 10)], [], [], [], [], [], [])), (.ofNat 10, [(.negSucc 0, 3)]))])
def cC313 : cC := (286, 2, [], ([(3, 72, .ofNat 0), (1, 1, .ofNat 0), (1, 2, .ofNat 0), (0, 0, .ofNat 0), (0, 0, .ofNat 0)], [], ([(.ofNat 0, .ofNat 0), (.ofNat 0, .ofNat 2147483647), (.ofNat 0, .ofNat 9)], [], [], [], [], [], [])), [([], [(1, 1, .ofNat 0)], ([(.ofNat 0, .ofNat 0), (.ofNat 0, .ofNat 1)], [], [], [], [], [], []))], [(2, ([(3, 72, .ofNat 0), (1, 1, .ofNat 0), (1, 2, .ofNat 0), (1, 3, .ofNat 0), (0, 0, .ofNat 0)], [], ([(.ofNat 0, .ofNat 0), (.ofNat 0, .ofNat 2147483647), (.ofNat 0, .ofNat 9), (.ofNat 0, .ofNat 300)], [], [], [], [], [], [])), (.ofNat 90600, [(.negSucc 300, 3)])), (50, ([(3, 72, .ofNat 0), (1, 1, .ofNat 0), (1, 2, .ofNat 0), (1, 3, .ofNat 0), (1, 4, .ofNat 0)], [], ([(.ofNat 0, .ofNat 0), (.ofNat 0, .ofNat 2147483647), (.ofNat 0, .ofNat 9), (.ofNat 0, .ofNat 299), (.ofNat 1, .ofNat 300), (.ofNat 1, .ofNat 300)], [], [], [], [(72, 19, 1, 5, .ofNat 0)], [], [])), (.ofNat 90600, [(.negSucc 0, 4), (.negSucc 300, 3)]))])
def cC332 : cC := (287, 0, [], ([(1, 1, .ofNat 0), (0, 0, .ofNat 0), (0, 0, .ofNat 0)], [], ([(.ofNat 0, .ofNat 0), (.ofNat 0, .ofNat 2147483647)], [], [], [], [], [], [])), [([], [(1, 1, .ofNat 0)], ([(.ofNat 0, .ofNat 0), (.negSucc 2147483647, .ofNat 2147483647)], [], [], [], [], [], []))], [(4, ([(1, 1, .ofNat 0), (1, 2, .ofNat 0), (1, 3, .ofNat 0)], [], ([(.ofNat 0, .ofNat 0), (.ofNat 0, .ofNat 2147483647), (.negSucc 2147483647, .ofNat 2147483647), (.ofNat 0, .ofNat 2147483647)], [], [], [], [], [], [])), (.ofNat 0, [(.ofNat 1, 3)]))])
def cCTy : List cC := cCTx ++ [cC312, cC313, cC332]
def cCMy : List (List Nat) := ((cCMx.set 285 [216]).set 286 [217]).set 287 [218]
theorem cy_312 : cchk cCTy cCMy 3000 216 = true := by decide +kernel
theorem cy_313 : cchk cCTy cCMy 3000 217 = true := by decide +kernel
theorem cy_332 : cchk cCTy cCMy 3000 218 = true := by decide +kernel
/-- least from its second count on -/
def cC206t : cC := (288, 30, [(72, 38), (72, 39), (72, 79), (72, 81), (103, 0), (104, 0), (105, 0), (106, 0), (107, 0), (108, 0), (109, 0), (110, 0), (132, 0), (133, 0)], ([(3, 72, .ofNat 0), (1, 1, .ofNat 0), (0, 0, .ofNat 0), (0, 0, .ofNat 0), (0, 0, .ofNat 0), (0, 0, .ofNat 0), (0, 0, .ofNat 0), (0, 0, .ofNat 0)], [], ([(.ofNat 0, .ofNat 0), (.negSucc 2147483647, .ofNat 2147483647)], [], [], [], [], [], [])), [([], [(1, 1, .ofNat 0)], ([(.ofNat 0, .ofNat 0), (.negSucc 2147483647, .ofNat 2147483647)], [], [], [], [], [], []))], [(130, ([(3, 72, .ofNat 0), (1, 1, .ofNat 0), (0, 0, .ofNat 0), (0, 0, .ofNat 0), (0, 0, .ofNat 0), (0, 0, .ofNat 0), (0, 0, .ofNat 0), (0, 0, .ofNat 0)], [], ([(.ofNat 0, .ofNat 0), (.ofNat 0, .ofNat 9)], [], [], [], [], [], [])), (.ofNat 25769803787, [])), (138, ([(3, 72, .ofNat 0), (1, 1, .ofNat 0), (0, 0, .ofNat 0), (1, 2, .ofNat 0), (1, 3, .ofNat 0), (1, 4, .ofNat 0), (0, 0, .ofNat 0), (0, 0, .ofNat 0)], [], ([(.ofNat 0, .ofNat 0), (.ofNat 0, .ofNat 9), (.negSucc 0, .ofNat 2147483646), (.negSucc 2147483647, .ofNat 2147483647), (.ofNat 0, .ofNat 2147483647)], [(2, 4, .negSucc 0)], [], [], [], [], [])), (.ofNat 25769803786, [(.negSucc 11, 4)])), (155, ([(3, 72, .ofNat 0), (1, 1, .ofNat 0), (0, 0, .ofNat 0), (1, 2, .ofNat 0), (1, 3, .ofNat 0), (1, 4, .ofNat 0), (1, 5, .ofNat 0), (1, 6, .ofNat 0)], [], ([(.ofNat 0, .ofNat 0), (.ofNat 0, .ofNat 9), (.negSucc 0, .ofNat 2147483646), (.negSucc 2147483647, .ofNat 2147483647), (.ofNat 0, .ofNat 2147483646), (.negSucc 2147483647, .ofNat 2147483647), (.ofNat 0, .ofNat 10), (.ofNat 0, .ofNat 10)], [(2, 4, .negSucc 0), (6, 7, .ofNat 0)], [], [], [(72, 79, 1, 7, .ofNat 0)], [], [])), (.ofNat 25769803785, [(.negSucc 0, 6), (.negSucc 11, 4)])), (266, ([(3, 72, .ofNat 0), (1, 1, .ofNat 0), (0, 0, .ofNat 0), (1, 2, .ofNat 0), (1, 3, .ofNat 0), (1, 4, .ofNat 0), (0, 0, .ofNat 0), (0, 0, .ofNat 0)], [], ([(.ofNat 0, .ofNat 0), (.ofNat 0, .ofNat 9), (.negSucc 0, .ofNat 2147483646), (.negSucc 2147483647, .ofNat 2147483647), (.ofNat 0, .ofNat 10), (.ofNat 0, .ofNat 10), (.ofNat 0, .ofNat 10)], [(4, 6, .ofNat 0), (5, 4, .ofNat 0)], [], [], [(72, 81, 1, 5, .ofNat 0), (72, 79, 1, 6, .ofNat 0)], [], [])), (.ofNat 10, [(.negSucc 0, 4)]))])
theorem cy_206t : cC206t.2.2.2.2.2.all (fun c => crk0 c.2.1 c.2.2 && cseg (cCTy, cCMy, 219, cC206t.2.2.1, cC206t.2.2.2.2.2, some c.2.2) cC206t 3000 c.1 c.2.1) = true := by decide +kernel
def cCMt (CT : List cC) (CM : List (List Nat)) : Bool := (List.range CM.length).all (fun a => match CM[a]? with
  | some js => js.all (fun j => match CT[j]? with
    | some C => Nat.beq C.1 a
    | none => true)
  | none => true)
theorem cCMt_ok {CT : List cC} {CM : List (List Nat)} (k : cCMt CT CM = true) : ∀ (a : Nat) (js : List Nat), CM[a]? = some js → ∀ j, j ∈ js → ∀ C, CT[j]? = some C → C.1 = a := by
  intro a js h j hj C hC
  have ha : a < CM.length := (List.getElem?_eq_some_iff.mp h).1
  have h1 := List.all_eq_true.mp k a (List.mem_range.mpr ha)
  simp only [h] at h1
  have h2 := List.all_eq_true.mp h1 j hj
  simp only [hC] at h2
  exact Nat.eq_of_beq_eq_true h2
theorem cCMx_t : cCMt cCTx cCMx = true := by decide +kernel
theorem cCMy_t : cCMt cCTy cCMy = true := by decide +kernel
def hT (X : aX) (CT : List cC) (k : Nat) : Prop := ∀ j, j < k → ∀ C, CT[j]? = some C → dGood X C
theorem tstep {X : aX} {CT : List cC} {CM : List (List Nat)} {k : Nat} (hX : X 0 = some (8, zab)) (hM : cCMt CT CM = true) (h : hT X CT k) (c : cchk CT CM 3000 k = true) : hT X CT (k + 1) := by
  intro j hj C hC
  rcases Nat.lt_succ_iff_lt_or_eq.mp hj with q | rfl
  · exact h j q C hC
  · exact cchk_s hX (cCMt_ok hM) h c C hC
theorem cCT_len : (cCT.take 206).length = 206 := by decide +kernel
theorem hT_x {X : aX} (hX : X 0 = some (8, zab)) (g : hG X 206) : hT X cCTx 216 := by
  have g0 : hT X cCTx 206 := fun j hj C hC => g j hj C (by
    unfold cCTx at hC
    rw [List.getElem?_append_left (by rw [cCT_len]; exact hj), List.getElem?_take_of_lt hj] at hC
    exact hC)
  have g1 := tstep hX cCMx_t g0 cx_302
  have g2 := tstep hX cCMx_t g1 cx_303
  have g3 := tstep hX cCMx_t g2 cx_304
  have g4 := tstep hX cCMx_t g3 cx_305
  have g5 := tstep hX cCMx_t g4 cx_306
  have g6 := tstep hX cCMx_t g5 cx_307
  have g7 := tstep hX cCMx_t g6 cx_308
  have g8 := tstep hX cCMx_t g7 cx_309
  have g9 := tstep hX cCMx_t g8 cx_310
  exact tstep hX cCMx_t g9 cx_311
theorem cCTx_len : cCTx.length = 216 := by decide +kernel
theorem hT_y {X : aX} (hX : X 0 = some (8, zab)) (g : hT X cCTx 216) : hT X cCTy 219 := by
  have g0 : hT X cCTy 216 := fun j hj C hC => g j hj C (by
    unfold cCTy at hC
    rw [List.getElem?_append_left (by rw [cCTx_len]; exact hj)] at hC
    exact hC)
  exact tstep hX cCMy_t (tstep hX cCMy_t (tstep hX cCMy_t g0 cy_312) cy_313) cy_332

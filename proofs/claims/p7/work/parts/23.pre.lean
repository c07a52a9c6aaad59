-- ===== the law up to its loop =====
theorem fl_0 : aF 0 zM333.2.2.2.2.2.2.2 = some (0, .new 7, 3, 11, 0) := by decide +kernel
theorem fl_3 : aF 3 zM333.2.2.2.2.2.2.2 = some (3, .dup, 1, 0, 0) := by decide +kernel
theorem fl_4 : aF 4 zM333.2.2.2.2.2.2.2 = some (4, .invokespecial 9, 3, 136, 0) := by decide +kernel
theorem fl_7 : aF 7 zM333.2.2.2.2.2.2.2 = some (7, .astore_n 1, 1, 0, 0) := by decide +kernel
theorem fl_8 : aF 8 zM333.2.2.2.2.2.2.2 = some (8, .new 10, 3, 12, 0) := by decide +kernel
theorem fl_11 : aF 11 zM333.2.2.2.2.2.2.2 = some (11, .dup, 1, 0, 0) := by decide +kernel
theorem fl_12 : aF 12 zM333.2.2.2.2.2.2.2 = some (12, .invokespecial 12, 3, 195, 0) := by decide +kernel
theorem fl_15 : aF 15 zM333.2.2.2.2.2.2.2 = some (15, .astore_n 2, 1, 0, 0) := by decide +kernel
theorem fl_16 : aF 16 zM333.2.2.2.2.2.2.2 = some (16, .iconst 0, 1, 0, 0) := by decide +kernel
theorem fl_17 : aF 17 zM333.2.2.2.2.2.2.2 = some (17, .istore_n 3, 1, 0, 0) := by decide +kernel
theorem law_pre {p : Program} {l : Launch} {e : Env} {s : State} {m : MethodId} {args : Array Value} {below : List Frame} {meth : Method} {c : Code} {Q : State → Prop} {b0 : Nat} {D : va_G} {cA : Nat → ClassId} {ea : Nat → Nat} {X : aX}
    (C : aCF (p, l, e, room_1, s, m, args, below, meth, c, Q, code, 4, b0, 0, 0, 13, 1, D, cA, ea, X)) (k : aSW (p, l, e, room_1, s, m, args, below, meth, c, Q, code, 4, b0, 0, 0, 13, 1, D, cA, ea, X) 18 [some (.retAddr 1), some (.ref 0), some (.ref 72), some (.int 0)] [] zH0) :
    aSW (p, l, e, room_1, s, m, args, below, meth, c, Q, code, 4, b0, 0, 0, 13, 1, D, cA, ea, X) 0 (aE 4 [.retAddr 1]) [] ([], 0) := by
  have hCd : aCd (p, l, e, room_1, s, m, args, below, meth, c, Q, code, 4, b0, 0, 0, 13, 1, D, cA, ea, X) zM333 := ⟨zlw_ok, rfl, rfl⟩
  have at' : ∀ {i : aI}, i ∈ zM333.2.2.2.2.2.2.2 → _ := fun {i} hi => aCd_at hCd hi
  obtain ⟨h1, h2, r1, r2, l1, s2, c2⟩ := zinit
  have m1 : zM136 ∈ zmt := List.mem_of_getElem? (i := 136) rfl
  have m2 : zM195 ∈ zmt := List.mem_of_getElem? (i := 195) rfl
  have r2' : arun zX0 3000 10 zM195 0 (aE zM195.2.2.2.1 [.ref 72]) [] (zb 12 h1) = some (none, h2) := by
    have := r2
    unfold zr2 at this
    rw [r1] at this
    exact this
  have hX : ∀ x q, zX0 x = some q → X x = some q := fun x q h => by cases h
  have M1 := aMet_X hX (aM_of (a_sim zX0 3000) l D cA ea b0 10 zM136 [.ref 0] (zb 11 ([], 0)) none h1 m1 r1 (by decide))
  have M2 := aMet_X hX (aM_of (a_sim zX0 3000) l D cA ea b0 10 zM195 [.ref 72] (zb 12 h1) none h2 m2 r2' (by decide))
  have G1 := arun_grows _ _ _ _ _ _ _ _ r1
  have G2 := arun_grows _ _ _ _ _ _ _ _ r2'
  dsimp only at G1 G2
  have n2 : h2.1.length = 146 := (ceqL_get c2).1.trans zH0_len
  have n2' : h2.2 = 58023 := s2
  have n11 : zN 11 = 10 := rfl
  have n12 : zN 12 = 101 := rfl
  have zb1 : (zb 12 h1).1.length = 73 := by unfold zb; rw [List.length_append, l1]; rfl
  have zb2 : (zb 12 h1).2 = h1.2 + 101 := rfl
  have zb3 : (zb 11 ([], 0)).1.length = 1 := rfl
  have zb4 : (zb 11 ([], 0)).2 = 10 := rfl
  have R0 : ∀ (h : aH), h.1.length ≤ 146 → h.2 ≤ 58023 → aRM (p, l, e, room_1, s, m, args, below, meth, c, Q, code, 4, b0, 0, 0, 13, 1, D, cA, ea, X) h := fun h a b => ⟨Nat.le_trans a (by show 146 ≤ 0 + 600000; omega), Nat.le_trans b (by show 58023 ≤ 0 + 7302250; omega)⟩
  have R1 : aRm (p, l, e, room_1, s, m, args, below, meth, c, Q, code, 4, b0, 0, 0, 13, 1, D, cA, ea, X) 11 h2 := ⟨R0 h2 (by omega) (by omega), by show 11 ≤ 2048; omega, by show 41 * 11 ≤ 84000; omega⟩
  have i0 := at' (aF_some fl_0).1
  refine s_new (a := 11) (by decide) (z_cls (o := 13) i0.2.1).2 (z_ini (by decide)).1 (z_ini (by decide)).2 (R0 (zb 11 ([], 0)) (by omega) (by omega)) C i0.1 ?_
  have i3 := at' (aF_some fl_3).1
  refine s_dup rfl C i3.1 ?_
  have i4 := at' (aF_some fl_4).1
  refine s_init (as := []) (r := [.ref 0]) (h := zb 11 ([], 0)) (h1 := h1) (h' := h2) (d' := 10) (Y := zM136) (v := none) (a := 136) rfl (zmt_ok _ m1) rfl i4.2.1 rfl (by decide) M1 G1 (by omega) R1 C i4.1 ?_
  have i7 := at' (aF_some fl_7).1
  refine s_astoren (z := 1) (x := 0) (by decide) C i7.1 ?_
  have i8 := at' (aF_some fl_8).1
  refine s_new (a := 12) (by decide) (z_cls (o := 13) i8.2.1).2 (z_ini (by decide)).1 (z_ini (by decide)).2 (R0 (zb 12 h1) (by omega) (by omega)) C i8.1 ?_
  rw [l1]
  have i11 := at' (aF_some fl_11).1
  refine s_dup rfl C i11.1 ?_
  have i12 := at' (aF_some fl_12).1
  refine s_init (as := []) (r := [.ref 72]) (h := zb 12 h1) (h1 := h2) (h' := h2) (d' := 10) (Y := zM195) (v := none) (a := 195) rfl (zmt_ok _ m2) rfl i12.2.1 rfl (by decide) M2 G2 ⟨Nat.le_refl _, Nat.le_refl _⟩ R1 C i12.1 ?_
  have i15 := at' (aF_some fl_15).1
  refine s_astoren (z := 2) (x := 72) (by decide) C i15.1 ?_
  have i16 := at' (aF_some fl_16).1
  refine s_iconst C i16.1 ?_
  have i17 := at' (aF_some fl_17).1
  refine s_istoren (z := 3) (x := 0) (by decide) C i17.1 ?_
  exact aSW_ceq c2 s2 k

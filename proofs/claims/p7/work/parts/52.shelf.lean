-- ===== by hand: tools, and the shelves' stores =====
theorem hcons {α : Type} {l : List α} {n : Nat} (h : l.length = n + 1) : ∃ a t, l = a :: t ∧ t.length = n := by
  cases l with
  | nil => cases h
  | cons a t => exact ⟨a, t, rfl, Nat.succ.inj h⟩
theorem hnil {α : Type} {l : List α} (h : l.length = 0) : l = [] := List.length_eq_zero_iff.mp h
/-- an int among the locals of a contract -/
theorem hL_i {ρ : List Int} {rh : List Nat} {V : cV} {L : List cW} {l : aL} (hL : dL ρ rh L l) (hV : kV ρ V) {i p : Nat} {o lo hi : Int} (e : L[i]? = some (1, p, o)) (ev : V[p]? = some (lo, hi)) : ∃ x : Int32, l[i]? = some (some (.int x)) ∧ lo + o ≤ x.toInt ∧ x.toInt ≤ hi + o := by
  obtain ⟨x, y, a1, a2, a3⟩ := dL_i hL e
  have := hV.2.2 p y _ a2 ev
  dsimp only at this
  exact ⟨x, a1, by omega, by omega⟩
theorem upd_rng {g : Nat → Int32} {n k : Nat} {x : Int32} {lo hi : Int} (hg : ∀ j, j < n → lo ≤ (g j).toInt ∧ (g j).toInt ≤ hi) (h1 : lo ≤ x.toInt) (h2 : x.toInt ≤ hi) : ∀ j, j < n → lo ≤ (upd g k x j).toInt ∧ (upd g k x j).toInt ≤ hi := by
  intro j hj
  unfold upd
  split
  · exact ⟨h1, h2⟩
  · exact hg j hj
/-- an array of the two objects written anew -/
theorem hS_a {σ : List Nat} {h : aH} (H : dH σ h) {W : List (Nat × Nat)} {r a n : Nat} {lo hi : Int} (k : tkA r a n lo hi = true) (hW : cWn W r 0 = true) {g g' : Nat → Int32} (c : h.1[r]? = some (.inl (a, n, .inl g))) (hg : ∀ j, j < n → lo ≤ (g' j).toInt ∧ (g' j).toInt ≤ hi) :
    dH σ (h.1.set r (.inl (a, n, .inl g')), h.2) ∧ dG W σ h σ (h.1.set r (.inl (a, n, .inl g')), h.2) := by
  unfold tkA at k
  split at k
  · rename_i t e
    simp only [Bool.and_eq_true, Nat.blt_eq, ceI_i] at k
    obtain ⟨⟨⟨⟨⟨k1, k2⟩, k3⟩, k4⟩, k5⟩, k6⟩ := k
    have e1 : t.1 = 1 := Nat.eq_of_beq_eq_true k1
    have e3 : t.2.1 = a := Nat.eq_of_beq_eq_true k3
    have e4 : t.2.2.1 = n := Nat.eq_of_beq_eq_true k4
    have hs := H.2.2.2 r k2
    refine ⟨dH_set H hs e ?_, dG_set H hs e (by omega) c ⟨fun x _ hw => ?_, fun ci fs0 hx => by cases hx⟩⟩
    · unfold dC
      rw [e1]
      exact ⟨g', by rw [e3, e4], by rw [e4, k5, k6]; exact hg⟩
    · rw [hW] at hw; cases hw
  · cases k
theorem hJ3 {h h' : aH} (J : dJ3 h) (k : ∀ r, r = 122 ∨ r = 123 ∨ r = 120 ∨ r = 121 ∨ r = 119 ∨ r = 72 → h'.1[r]? = h.1[r]?) : dJ3 h' := by
  obtain ⟨ga, gw, gt, gl, gm, fs, x, a1, a2, a3, a4, a5, a6, a7, a8⟩ := J
  exact ⟨ga, gw, gt, gl, gm, fs, x, (k _ (by omega)).trans a1, (k _ (by omega)).trans a2, (k _ (by omega)).trans a3, (k _ (by omega)).trans a4, (k _ (by omega)).trans a5, (k _ (by omega)).trans a6, a7, a8⟩
theorem hJ2 {h h' : aH} (J : dJ2 h) (k : ∀ r, r = 69 ∨ r = 70 → h'.1[r]? = h.1[r]?) : dJ2 h' := by
  obtain ⟨gs, gh, a1, a2, a3⟩ := J
  exact ⟨gs, gh, (k _ (by omega)).trans a1, (k _ (by omega)).trans a2, a3⟩
/-- the shelves written: one sort and one count -/
theorem hI_sh {σ : List Nat} {h : aH} (I : dI σ h) {W : List (Nat × Nat)} (w1 : cWn W 69 0 = true) (w2 : cWn W 70 0 = true) {gs gh : Nat → Int32} (c69 : h.1[69]? = some (.inl (0, 6, .inl gs))) (c70 : h.1[70]? = some (.inl (0, 6, .inl gh))) {j : Nat} {s x : Int32}
    (s1 : -1 ≤ s.toInt) (s2 : s.toInt ≤ 5) (x1 : 0 ≤ x.toInt) (x2 : x.toInt ≤ 149) (hx : 0 ≤ s.toInt → s.toInt ≤ 4 → x.toInt ≤ 60) :
    dI σ ((h.1.set 69 (.inl (0, 6, .inl (upd gs j s)))).set 70 (.inl (0, 6, .inl (upd gh j x))), h.2) ∧ dG W σ h σ ((h.1.set 69 (.inl (0, 6, .inl (upd gs j s)))).set 70 (.inl (0, 6, .inl (upd gh j x))), h.2) := by
  obtain ⟨g1, b1, r1⟩ := hI_a I (r := 69) (a := 0) (n := 6) (lo := -1) (hi := 5) (by decide +kernel)
  obtain ⟨g2, b2, r2⟩ := hI_a I (r := 70) (a := 0) (n := 6) (lo := 0) (hi := 149) (by decide +kernel)
  cases c69.symm.trans b1
  cases c70.symm.trans b2
  obtain ⟨H1, G1⟩ := hS_a I.1 (W := W) (r := 69) (a := 0) (n := 6) (lo := -1) (hi := 5) (by decide +kernel) w1 c69 (upd_rng (k := j) r1 s1 s2)
  have c70' : (h.1.set 69 (.inl (0, 6, .inl (upd gs j s))))[70]? = some (.inl (0, 6, .inl gh)) := (set_ne' (by decide)).trans c70
  obtain ⟨H2, G2⟩ := hS_a H1 (W := W) (r := 70) (a := 0) (n := 6) (lo := 0) (hi := 149) (by decide +kernel) w2 c70' (upd_rng (k := j) r2 x1 x2)
  refine ⟨⟨H2, ⟨upd gs j s, upd gh j x, (set_ne' (by decide)).trans (set_eq' c69), set_eq' c70', fun i hi a1 a2 => ?_⟩, hJ3 I.2.2 fun r hr => (set_ne' (by omega)).trans (set_ne' (by omega))⟩, dG_trans G1 G2⟩
  obtain ⟨gs', gh', d1, d2, d3⟩ := I.2.1
  cases c69.symm.trans d1
  cases c70.symm.trans d2
  unfold upd at a1 a2 ⊢
  split
  · rename_i e
    rw [if_pos e] at a1 a2
    exact hx a1 a2
  · rename_i e
    rw [if_neg e] at a1 a2
    exact d3 i hi a1 a2
theorem f107_0 : aF 0 zM107.2.2.2.2.2.2.2 = some (0, (.aload_n 0), 1, 0, 0) := by decide +kernel
theorem f107_1 : aF 1 zM107.2.2.2.2.2.2.2 = some (1, (.getfield 9), 3, 9, 0) := by decide +kernel
theorem f107_4 : aF 4 zM107.2.2.2.2.2.2.2 = some (4, (.iload_n 1), 1, 0, 0) := by decide +kernel
theorem f107_5 : aF 5 zM107.2.2.2.2.2.2.2 = some (5, (.iconst (-1)), 1, 0, 0) := by decide +kernel
theorem f107_6 : aF 6 zM107.2.2.2.2.2.2.2 = some (6, .iastore, 1, 0, 0) := by decide +kernel
theorem f107_7 : aF 7 zM107.2.2.2.2.2.2.2 = some (7, (.aload_n 0), 1, 0, 0) := by decide +kernel
theorem f107_8 : aF 8 zM107.2.2.2.2.2.2.2 = some (8, (.getfield 15), 3, 9, 1) := by decide +kernel
theorem f107_11 : aF 11 zM107.2.2.2.2.2.2.2 = some (11, (.iload_n 1), 1, 0, 0) := by decide +kernel
theorem f107_12 : aF 12 zM107.2.2.2.2.2.2.2 = some (12, (.iconst 0), 1, 0, 0) := by decide +kernel
theorem f107_13 : aF 13 zM107.2.2.2.2.2.2.2 = some (13, .iastore, 1, 0, 0) := by decide +kernel
theorem f107_14 : aF 14 zM107.2.2.2.2.2.2.2 = some (14, (.iconst 1), 1, 0, 0) := by decide +kernel
theorem f107_15 : aF 15 zM107.2.2.2.2.2.2.2 = some (15, .ireturn, 1, 0, 0) := by decide +kernel
theorem hand_280 {X : aX} : dGood X cC280 := by
  intro M hM l h σ ρ rh I K L
  have hM0 : zmt[107]? = some zM107 := rfl
  cases (show zmt[107]? = some M from hM).symm.trans hM0
  have a0 := dL_r L (i := 0) (c := 68) (o := 0) rfl (by decide)
  obtain ⟨x1, a1, b1, b1'⟩ := hL_i L K.1 (i := 1) (p := 1) (o := 0) (lo := 0) (hi := 5) rfl rfl
  obtain ⟨u0, l1, rfl, e1⟩ := hcons (show l.length = 2 from L.1)
  obtain ⟨u1, l2, rfl, e2⟩ := hcons e1
  cases hnil e2
  cases Option.some.inj a0
  cases Option.some.inj a1
  obtain ⟨fs, c68⟩ := hI_o I (r := 68) (ci := 9) (by decide +kernel)
  have F68_0 := hI_r I c68 (f := 0) (q := 69) (by decide +kernel)
  have F68_1 := hI_r I c68 (f := 1) (q := 70) (by decide +kernel)
  obtain ⟨gs, c69, -⟩ := hI_a I (r := 69) (a := 0) (n := 6) (lo := -1) (hi := 5) (by decide +kernel)
  obtain ⟨gh, c70, -⟩ := hI_a I (r := 70) (a := 0) (n := 6) (lo := 0) (hi := 149) (by decide +kernel)
  refine hEnd ?_
  refine wp1 (fun n d => r_aloadn f107_0 rfl) ?_
  refine w_get f107_1 c68 F68_0 ?_
  refine wp1 (fun n d => r_iloadn f107_4 rfl) ?_
  refine w_iconst f107_5 (fun v5 hv5 => ?_)
  refine w_iast f107_6 c69 (by omega) (by omega) ?_
  have c68b : (h.1.set 69 (.inl (0, 6, .inl (upd gs x1.toInt.toNat v5))))[68]? = some (.inr (9, fs)) := (set_ne' (by decide)).trans c68
  have c70b : (h.1.set 69 (.inl (0, 6, .inl (upd gs x1.toInt.toNat v5))))[70]? = some (.inl (0, 6, .inl gh)) := (set_ne' (by decide)).trans c70
  refine wp1 (fun n d => r_aloadn f107_7 rfl) ?_
  refine w_get f107_8 c68b F68_1 ?_
  refine wp1 (fun n d => r_iloadn f107_11 rfl) ?_
  refine w_iconst f107_12 (fun v12 hv12 => ?_)
  refine w_iast f107_13 c70b (by omega) (by omega) ?_
  refine w_iconst f107_14 (fun v14 hv14 => ?_)
  refine wp_end (fun n d => r_ireturn f107_15 rfl) ?_
  obtain ⟨I', G'⟩ := hI_sh I (W := [(69, 0), (70, 0)]) (by decide) (by decide) c69 c70 (j := x1.toInt.toNat) (s := v5) (x := v12) (by omega) (by omega) (by omega) (by omega) (fun _ _ => by omega)
  exact ⟨σ, I', G', _, List.mem_cons_self, post_i I'.1 (by show (1 : Int) ≤ _; omega) (by show _ ≤ (1 : Int); omega)⟩
theorem f108_0 : aF 0 zM108.2.2.2.2.2.2.2 = some (0, (.aload_n 0), 1, 0, 0) := by decide +kernel
theorem f108_1 : aF 1 zM108.2.2.2.2.2.2.2 = some (1, (.getfield 9), 3, 9, 0) := by decide +kernel
theorem f108_4 : aF 4 zM108.2.2.2.2.2.2.2 = some (4, (.iload_n 1), 1, 0, 0) := by decide +kernel
theorem f108_5 : aF 5 zM108.2.2.2.2.2.2.2 = some (5, (.iconst 5), 1, 0, 0) := by decide +kernel
theorem f108_6 : aF 6 zM108.2.2.2.2.2.2.2 = some (6, .iastore, 1, 0, 0) := by decide +kernel
theorem f108_7 : aF 7 zM108.2.2.2.2.2.2.2 = some (7, (.aload_n 0), 1, 0, 0) := by decide +kernel
theorem f108_8 : aF 8 zM108.2.2.2.2.2.2.2 = some (8, (.getfield 15), 3, 9, 1) := by decide +kernel
theorem f108_11 : aF 11 zM108.2.2.2.2.2.2.2 = some (11, (.iload_n 1), 1, 0, 0) := by decide +kernel
theorem f108_12 : aF 12 zM108.2.2.2.2.2.2.2 = some (12, (.iload_n 2), 1, 0, 0) := by decide +kernel
theorem f108_13 : aF 13 zM108.2.2.2.2.2.2.2 = some (13, .iastore, 1, 0, 0) := by decide +kernel
theorem f108_14 : aF 14 zM108.2.2.2.2.2.2.2 = some (14, (.iconst 1), 1, 0, 0) := by decide +kernel
theorem f108_15 : aF 15 zM108.2.2.2.2.2.2.2 = some (15, .ireturn, 1, 0, 0) := by decide +kernel
theorem hand_281 {X : aX} : dGood X cC281 := by
  intro M hM l h σ ρ rh I K L
  have hM0 : zmt[108]? = some zM108 := rfl
  cases (show zmt[108]? = some M from hM).symm.trans hM0
  have a0 := dL_r L (i := 0) (c := 68) (o := 0) rfl (by decide)
  obtain ⟨x1, a1, b1, b1'⟩ := hL_i L K.1 (i := 1) (p := 1) (o := 0) (lo := 0) (hi := 5) rfl rfl
  obtain ⟨x2, a2, b2, b2'⟩ := hL_i L K.1 (i := 2) (p := 2) (o := 0) (lo := 0) (hi := 149) rfl rfl
  obtain ⟨u0, l1, rfl, e1⟩ := hcons (show l.length = 3 from L.1)
  obtain ⟨u1, l2, rfl, e2⟩ := hcons e1
  obtain ⟨u2, l3, rfl, e3⟩ := hcons e2
  cases hnil e3
  cases Option.some.inj a0
  cases Option.some.inj a1
  cases Option.some.inj a2
  obtain ⟨fs, c68⟩ := hI_o I (r := 68) (ci := 9) (by decide +kernel)
  have F68_0 := hI_r I c68 (f := 0) (q := 69) (by decide +kernel)
  have F68_1 := hI_r I c68 (f := 1) (q := 70) (by decide +kernel)
  obtain ⟨gs, c69, -⟩ := hI_a I (r := 69) (a := 0) (n := 6) (lo := -1) (hi := 5) (by decide +kernel)
  obtain ⟨gh, c70, -⟩ := hI_a I (r := 70) (a := 0) (n := 6) (lo := 0) (hi := 149) (by decide +kernel)
  refine hEnd ?_
  refine wp1 (fun n d => r_aloadn f108_0 rfl) ?_
  refine w_get f108_1 c68 F68_0 ?_
  refine wp1 (fun n d => r_iloadn f108_4 rfl) ?_
  refine w_iconst f108_5 (fun v5 hv5 => ?_)
  refine w_iast f108_6 c69 (by omega) (by omega) ?_
  have c68b : (h.1.set 69 (.inl (0, 6, .inl (upd gs x1.toInt.toNat v5))))[68]? = some (.inr (9, fs)) := (set_ne' (by decide)).trans c68
  have c70b : (h.1.set 69 (.inl (0, 6, .inl (upd gs x1.toInt.toNat v5))))[70]? = some (.inl (0, 6, .inl gh)) := (set_ne' (by decide)).trans c70
  refine wp1 (fun n d => r_aloadn f108_7 rfl) ?_
  refine w_get f108_8 c68b F68_1 ?_
  refine wp1 (fun n d => r_iloadn f108_11 rfl) ?_
  refine wp1 (fun n d => r_iloadn f108_12 rfl) ?_
  refine w_iast f108_13 c70b (by omega) (by omega) ?_
  refine w_iconst f108_14 (fun v14 hv14 => ?_)
  refine wp_end (fun n d => r_ireturn f108_15 rfl) ?_
  obtain ⟨I', G'⟩ := hI_sh I (W := [(69, 0), (70, 0)]) (by decide) (by decide) c69 c70 (j := x1.toInt.toNat) (s := v5) (x := x2) (by omega) (by omega) (by omega) (by omega) (fun _ _ => by omega)
  exact ⟨σ, I', G', _, List.mem_cons_self, post_i I'.1 (by show (1 : Int) ≤ _; omega) (by show _ ≤ (1 : Int); omega)⟩

-- ===== loops of the library's fill, of the reference's findFaults =====
theorem set_self {σ : List aC} {o : Nat} {c : aC} (h : σ[o]? = some c) : σ.set o c = σ := by
  apply List.ext_getElem?
  intro i
  rw [List.getElem?_set]
  by_cases e : o = i
  · subst e
    rw [if_pos rfl, if_pos (List.getElem?_eq_some_iff.mp h).1, h]
  · rw [if_neg e]
theorem fi_body {X : aX} {n d o N i : Nat} {h : aH} {f : Nat → Int32} {v : Int32} (ho : h.1[o]? = some (.inl (0, N, .inl f))) (hi : i < N) (hN : N < 2 ^ 31) : arun X (n + 9) d zM332 5 [some (.ref o), some (.int v), some (.int (nI i)), some (.int (nI N))] [] h = arun X n d zM332 5 [some (.ref o), some (.int v), some (.int (nI (i + 1))), some (.int (nI N))] [] (h.1.set o (.inl (0, N, .inl (upd f i v))), h.2) := by
  refine (r_iloadn f332_5 rfl).trans ?_
  refine (r_iloadn f332_6 rfl).trans ?_
  refine (r_icmp_ge_f f332_7 (nI_ge hi hN)).trans ?_
  refine (r_aloadn f332_10 rfl).trans ?_
  refine (r_iloadn f332_11 rfl).trans ?_
  refine (r_iloadn f332_12 rfl).trans ?_
  refine (r_iast (h' := (h.1.set o (.inl (0, N, .inl (upd f i v))), h.2)) f332_13 ho (nI_in hi hN) (by rw [nI_clamp (Nat.lt_trans hi hN)])).trans ?_
  refine (r_iinc (v := nI (i + 1)) (L' := [some (.ref o), some (.int v), some (.int (nI (i + 1))), some (.int (nI N))]) f332_14 rfl (nI_1 i) rfl).trans ?_
  exact r_goto f332_17
theorem fi_loop {o N : Nat} {v : Int32} (hN : N < 2 ^ 31) : ∀ (k i : Nat) (h : aH) (f : Nat → Int32), i + k = N → h.1[o]? = some (.inl (0, N, .inl f)) → ∃ g : Nat → Int32, (∀ (X : aX) (n d : Nat), arun X (n + (9 * k + 4)) d zM332 5 [some (.ref o), some (.int v), some (.int (nI i)), some (.int (nI N))] [] h = some (none, (h.1.set o (.inl (0, N, .inl g)), h.2))) ∧ ∀ j, j < N → g j = if j < i then f j else v := by
  intro k
  induction k with
  | zero =>
    intro i h f hi ho
    have : i = N := by omega
    subst this
    refine ⟨f, fun X n d => ?_, fun j hj => by rw [if_pos hj]⟩
    refine (r_iloadn f332_5 rfl).trans ?_
    refine (r_iloadn f332_6 rfl).trans ?_
    refine (r_icmp_ge_t f332_7 (Int32.le_refl _)).trans ?_
    rw [set_self ho]
    exact r_vreturn f332_20 rfl
  | succ k ih =>
    intro i h f hi ho
    obtain ⟨g, g1, g2⟩ := ih (i + 1) (h.1.set o (.inl (0, N, .inl (upd f i v))), h.2) (upd f i v) (by omega) (gs_eq ho)
    refine ⟨g, fun X n d => ?_, fun j hj => ?_⟩
    · have e := fi_body (X := X) (n := n + (9 * k + 4)) (d := d) (v := v) ho (show i < N by omega) hN
      rw [show n + (9 * (k + 1) + 4) = n + (9 * k + 4) + 9 by omega]
      refine e.trans ?_
      have := g1 X n d
      simp only [List.set_set] at this
      exact this
    · rw [g2 j hj]
      unfold upd
      by_cases h1 : j < i
      · rw [if_pos (by omega), if_pos h1, if_neg (by omega)]
      · rw [if_neg h1]
        by_cases h2 : j = i
        · rw [if_pos (by omega), if_pos h2]
        · rw [if_neg (by omega)]
/-- Arrays.fill(int[], int) -/
theorem fill_int {o N : Nat} {v : Int32} {h : aH} {f : Nat → Int32} (ho : h.1[o]? = some (.inl (0, N, .inl f))) (hN : N < 2 ^ 31) : ∃ g : Nat → Int32, (∀ (X : aX) (n d : Nat), arun X (n + (9 * N + 9)) d zM332 0 [some (.ref o), some (.int v), none, none] [] h = some (none, (h.1.set o (.inl (0, N, .inl g)), h.2))) ∧ ∀ j, j < N → g j = v := by
  obtain ⟨g, g1, g2⟩ := fi_loop (v := v) hN N 0 h f (by omega) ho
  refine ⟨g, fun X n d => ?_, fun j hj => by rw [g2 j hj]; simp⟩
  refine (r_iconst (v := 0) f332_0 rfl).trans ?_
  refine (r_istoren (L' := [some (.ref o), some (.int v), some (.int 0), none]) f332_1 rfl rfl).trans ?_
  refine (r_aloadn f332_2 rfl).trans ?_
  refine (r_alen (v := nI N) f332_3 ho rfl).trans ?_
  refine (r_istoren (L' := [some (.ref o), some (.int v), some (.int (nI 0)), some (.int (nI N))]) f332_4 rfl rfl).trans ?_
  exact g1 X n d
/-- Arrays.fill(long[], int, int, long) -/
theorem fl_body {X : aX} {n d o N i : Nat} {h : aH} {f : Nat → Int64} {v : Int64} {x1 x2 : Int32} {b : Nat} (hx2 : x2 = nI b) (ho : h.1[o]? = some (.inl (1, N, .inr (.inl f)))) (hi : i < b) (hb : b ≤ N) (hN : N < 2 ^ 31) : arun X (n + 9) d zM331 10 [some (.ref o), some (.int x1), some (.int x2), some (.long v), none, some (.int (nI i))] [] h = arun X n d zM331 10 [some (.ref o), some (.int x1), some (.int x2), some (.long v), none, some (.int (nI (i + 1)))] [] (h.1.set o (.inl (1, N, .inr (.inl (vp_updL f i v)))), h.2) := by
  subst hx2
  refine (r_iload f331_10 rfl).trans ?_
  refine (r_iloadn f331_12 rfl).trans ?_
  refine (r_icmp_ge_f f331_13 (nI_ge hi (by omega))).trans ?_
  refine (r_aloadn f331_16 rfl).trans ?_
  refine (r_iload f331_17 rfl).trans ?_
  refine (r_lloadn f331_19 rfl).trans ?_
  refine (r_last (h' := (h.1.set o (.inl (1, N, .inr (.inl (vp_updL f i v)))), h.2)) f331_20 ho (nI_in (by omega) hN) (by rw [nI_clamp (by omega)])).trans ?_
  refine (r_iinc (v := nI (i + 1)) (L' := [some (.ref o), some (.int x1), some (.int (nI b)), some (.long v), none, some (.int (nI (i + 1)))]) f331_21 rfl (nI_1 i) rfl).trans ?_
  exact r_goto f331_24
theorem fl_loop {o N b : Nat} {v : Int64} {x1 x2 : Int32} (hx2 : x2 = nI b) (hb : b ≤ N) (hN : N < 2 ^ 31) : ∀ (k i : Nat) (h : aH) (f : Nat → Int64), i + k = b → h.1[o]? = some (.inl (1, N, .inr (.inl f))) → ∃ g : Nat → Int64, ∀ (X : aX) (n d : Nat), arun X (n + (9 * k + 4)) d zM331 10 [some (.ref o), some (.int x1), some (.int x2), some (.long v), none, some (.int (nI i))] [] h = some (none, (h.1.set o (.inl (1, N, .inr (.inl g))), h.2)) := by
  intro k
  induction k with
  | zero =>
    intro i h f hi ho
    have : i = b := by omega
    subst this
    refine ⟨f, fun X n d => ?_⟩
    refine (r_iload f331_10 rfl).trans ?_
    refine (r_iloadn f331_12 rfl).trans ?_
    refine (r_icmp_ge_t f331_13 (by rw [hx2]; exact Int32.le_refl _)).trans ?_
    rw [set_self ho]
    exact r_vreturn f331_27 rfl
  | succ k ih =>
    intro i h f hi ho
    obtain ⟨g, g1⟩ := ih (i + 1) (h.1.set o (.inl (1, N, .inr (.inl (vp_updL f i v)))), h.2) (vp_updL f i v) (by omega) (gs_eq ho)
    refine ⟨g, fun X n d => ?_⟩
    have e := fl_body (X := X) (n := n + (9 * k + 4)) (d := d) (v := v) (x1 := x1) hx2 ho (show i < b by omega) hb hN
    rw [show n + (9 * (k + 1) + 4) = n + (9 * k + 4) + 9 by omega]
    refine e.trans ?_
    have := g1 X n d
    simp only [List.set_set] at this
    exact this
theorem fill_long {o N a b : Nat} {v : Int64} {x1 x2 : Int32} {h : aH} {f : Nat → Int64} (ho : h.1[o]? = some (.inl (1, N, .inr (.inl f)))) (hx1 : x1 = nI a) (hx2 : x2 = nI b) (hab : a ≤ b) (hb : b ≤ N) (hN : N < 2 ^ 31) : ∃ g : Nat → Int64, ∀ (X : aX) (n d : Nat), arun X (n + (9 * (b - a) + 30)) (d + 2) zM331 0 [some (.ref o), some (.int x1), some (.int x2), some (.long v), none, none] [] h = some (none, (h.1.set o (.inl (1, N, .inr (.inl g))), h.2)) := by
  obtain ⟨g, g1⟩ := fl_loop (v := v) (x1 := x1) hx2 hb hN (b - a) a h f (by omega) ho
  refine ⟨g, fun X n d => ?_⟩
  have hc : arun X (n + (9 * (b - a) + 25)) (d + 1) zM330 0 [some (.int (nI N)), some (.int x1), some (.int x2)] [] h = some (none, h) := by
    refine (r_iloadn (n := n + (9 * (b - a) + 24)) f330_0 rfl).trans ?_
    refine (r_iloadn (n := n + (9 * (b - a) + 23)) f330_1 rfl).trans ?_
    refine (r_icmp_le_t (n := n + (9 * (b - a) + 22)) f330_2 (by rw [hx1, hx2]; exact nI_le hab (by omega))).trans ?_
    refine (r_iloadn (n := n + (9 * (b - a) + 21)) f330_46 rfl).trans ?_
    refine (r_if_ge_t (n := n + (9 * (b - a) + 20)) f330_47 (by rw [hx1]; exact nI_pos' (by omega))).trans ?_
    refine (r_iloadn (n := n + (9 * (b - a) + 19)) f330_59 rfl).trans ?_
    refine (r_iloadn (n := n + (9 * (b - a) + 18)) f330_60 rfl).trans ?_
    refine (r_icmp_le_t (n := n + (9 * (b - a) + 17)) f330_61 (by rw [hx2]; exact nI_le hb hN)).trans ?_
    exact r_vreturn (n := n + (9 * (b - a) + 16)) f330_73 rfl
  refine (r_aloadn (n := n + (9 * (b - a) + 29)) f331_0 rfl).trans ?_
  refine (r_alen1 (v := nI N) (n := n + (9 * (b - a) + 28)) f331_1 ho rfl).trans ?_
  refine (r_iloadn (n := n + (9 * (b - a) + 27)) f331_2 rfl).trans ?_
  refine (r_iloadn (n := n + (9 * (b - a) + 26)) f331_3 rfl).trans ?_
  refine (r_stat (as := [.int (nI N), .int x1, .int x2]) (v := none) (h1 := h) (n := n + (9 * (b - a) + 25)) f331_4 rfl zg330 rfl rfl rfl rfl rfl rfl hc).trans ?_
  refine (r_iloadn (n := n + (9 * (b - a) + 24)) f331_7 rfl).trans ?_
  refine (r_istore (L' := [some (.ref o), some (.int x1), some (.int x2), some (.long v), none, some (.int x1)]) (n := n + (9 * (b - a) + 23)) f331_8 rfl rfl).trans ?_
  have := g1 X (n + 19) (d + 2)
  rw [hx1, show n + (9 * (b - a) + 23) = n + 19 + (9 * (b - a) + 4) by omega]
  rw [hx1] at this
  exact this
theorem ff_body {X : aX} {n d i : Nat} {h : aH} {fs : List Value} {f1 f2 f3 : Nat → Int32} {yr kk : Int32} (g72 : h.1[72]? = some (.inr (12, fs))) (g107 : h.1[107]? = some (.inl (0, 576, .inl (f1)))) (g108 : h.1[108]? = some (.inl (2, 576, .inl (f2)))) (g109 : h.1[109]? = some (.inl (2, 576, .inl (f3)))) (q25 : fs[25]? = some (.int 0)) (q44 : fs[44]? = some (.ref 107)) (q45 : fs[45]? = some (.ref 108)) (q46 : fs[46]? = some (.ref 109)) (ec0 : ¬ 576 ≤ (nI i)) (jc0 : ¬ ((nI i) < 0 ∨ 576 ≤ Int32.toNatClampNeg (nI i))) : arun X (n + 79) (d + 2) zM236 2 [some (.ref 72), some (.int yr), some (.int kk), some (.int (nI i)), none] [] h = arun X (n + 50) (d + 2) zM236 2 [some (.ref 72), some (.int yr), some (.int kk), some (.int ((nI i) + 1)), none] [] ((((h.1.set 107 (.inl (0, 576, .inl (upd (f1) (Int32.toNatClampNeg (nI i)) (-1))))).set 108 (.inl (2, 576, .inl (upd (f2) (Int32.toNatClampNeg (nI i)) (0 &&& 1))))).set 109 (.inl (2, 576, .inl (upd (f3) (Int32.toNatClampNeg (nI i)) (0 &&& 1))))), h.2) := by
  refine (r_iloadn f236_2 rfl).trans ?_
  refine (r_sipush (v := 576) f236_3 rfl).trans ?_
  refine (r_icmp_ge_f f236_6 ec0).trans ?_
  refine (r_aloadn f236_9 rfl).trans ?_
  refine (r_get (v := .ref 107) f236_10 g72 q44).trans ?_
  refine (r_iloadn f236_13 rfl).trans ?_
  refine (r_iconst (v := (-1)) f236_14 rfl).trans ?_
  refine (r_iast (h' := ((h.1.set 107 (.inl (0, 576, .inl (upd (f1) (Int32.toNatClampNeg (nI i)) (-1))))), h.2)) f236_15 g107 jc0 rfl).trans ?_
  refine (r_aloadn f236_16 rfl).trans ?_
  refine (r_get (v := .ref 108) f236_17 (gs_ne g72 (by decide)) q45).trans ?_
  refine (r_iloadn f236_20 rfl).trans ?_
  refine (r_iconst (v := 0) f236_21 rfl).trans ?_
  refine (r_zast (h' := (((h.1.set 107 (.inl (0, 576, .inl (upd (f1) (Int32.toNatClampNeg (nI i)) (-1))))).set 108 (.inl (2, 576, .inl (upd (f2) (Int32.toNatClampNeg (nI i)) (0 &&& 1))))), h.2)) f236_22 (gs_ne g108 (by decide)) jc0 rfl).trans ?_
  refine (r_aloadn f236_23 rfl).trans ?_
  refine (r_get (v := .ref 109) f236_24 (gs_ne (gs_ne g72 (by decide)) (by decide)) q46).trans ?_
  refine (r_iloadn f236_27 rfl).trans ?_
  refine (r_aloadn f236_28 rfl).trans ?_
  refine (r_iloadn f236_29 rfl).trans ?_
  refine (r_bipush (v := 24) f236_30 rfl).trans ?_
  refine (r_irem (v := ((nI i) - (nI i) / 24 * 24)) f236_32 (by decide) rfl).trans ?_
  refine (r_iloadn f236_33 rfl).trans ?_
  refine (r_bipush (v := 24) f236_34 rfl).trans ?_
  refine (r_idiv (v := ((nI i) / 24)) f236_36 (by decide) rfl).trans ?_
  refine (r_iloadn f236_37 rfl).trans ?_
  refine (r_iloadn f236_38 rfl).trans ?_
  have hc1 : arun X (n + 53) (d + 1) zM233 0 [some (.ref 72), some (.int ((nI i) - (nI i) / 24 * 24)), some (.int ((nI i) / 24)), some (.int yr), some (.int kk), none] [] (((h.1.set 107 (.inl (0, 576, .inl (upd (f1) (Int32.toNatClampNeg (nI i)) (-1))))).set 108 (.inl (2, 576, .inl (upd (f2) (Int32.toNatClampNeg (nI i)) (0 &&& 1))))), h.2) = some ((some (.int 0)), (((h.1.set 107 (.inl (0, 576, .inl (upd (f1) (Int32.toNatClampNeg (nI i)) (-1))))).set 108 (.inl (2, 576, .inl (upd (f2) (Int32.toNatClampNeg (nI i)) (0 &&& 1))))), h.2)) := by
    refine (r_iconst (v := 0) f233_0 rfl).trans ?_
    refine (r_istore (L' := [some (.ref 72), some (.int ((nI i) - (nI i) / 24 * 24)), some (.int ((nI i) / 24)), some (.int yr), some (.int kk), some (.int 0)]) f233_1 rfl rfl).trans ?_
    refine (r_iload f233_3 rfl).trans ?_
    refine (r_aloadn f233_5 rfl).trans ?_
    refine (r_get (v := .int 0) f233_6 (gs_ne (gs_ne g72 (by decide)) (by decide)) q25).trans ?_
    refine (r_icmp_ge_t f233_9 (by decide)).trans ?_
    refine (r_iconst (v := 0) f233_89 rfl).trans ?_
    exact r_zreturn f233_90 rfl (by decide)
  refine (r_virt (as := [.int ((nI i) - (nI i) / 24 * 24), .int ((nI i) / 24), .int yr, .int kk]) (v := (some (.int 0))) (h1 := (((h.1.set 107 (.inl (0, 576, .inl (upd (f1) (Int32.toNatClampNeg (nI i)) (-1))))).set 108 (.inl (2, 576, .inl (upd (f2) (Int32.toNatClampNeg (nI i)) (0 &&& 1))))), h.2)) f236_39 (gs_ne (gs_ne g72 (by decide)) (by decide)) zg233 rfl rfl rfl rfl rfl rfl hc1).trans ?_
  refine (r_zast (h' := ((((h.1.set 107 (.inl (0, 576, .inl (upd (f1) (Int32.toNatClampNeg (nI i)) (-1))))).set 108 (.inl (2, 576, .inl (upd (f2) (Int32.toNatClampNeg (nI i)) (0 &&& 1))))).set 109 (.inl (2, 576, .inl (upd (f3) (Int32.toNatClampNeg (nI i)) (0 &&& 1))))), h.2)) f236_42 (gs_ne (gs_ne g109 (by decide)) (by decide)) jc0 rfl).trans ?_
  refine (r_iinc (v := ((nI i) + 1)) (L' := [some (.ref 72), some (.int yr), some (.int kk), some (.int ((nI i) + 1)), none]) f236_43 rfl rfl rfl).trans ?_
  refine (r_goto f236_46).trans ?_
  exact rfl
theorem ff_loop {fs : List Value} {yr kk : Int32} (q25 : fs[25]? = some (.int 0)) (q44 : fs[44]? = some (.ref 107)) (q45 : fs[45]? = some (.ref 108)) (q46 : fs[46]? = some (.ref 109)) : ∀ (k i : Nat) (h : aH) (f1 f2 f3 : Nat → Int32), i + k = 576 → h.1[72]? = some (.inr (12, fs)) → h.1[107]? = some (.inl (0, 576, .inl f1)) → h.1[108]? = some (.inl (2, 576, .inl f2)) → h.1[109]? = some (.inl (2, 576, .inl f3)) →
    ∃ h' : aH, (∀ (X : aX) (n d : Nat), arun X (n + (29 * k + 53)) (d + 2) zM236 2 [some (.ref 72), some (.int yr), some (.int kk), some (.int (nI i)), none] [] h = arun X (n + 50) (d + 2) zM236 49 [some (.ref 72), some (.int yr), some (.int kk), some (.int (nI 576)), none] [] h') ∧ h'.1.length = h.1.length ∧ h'.2 = h.2 ∧ (∀ k, k ≠ 107 → k ≠ 108 → k ≠ 109 → h'.1[k]? = h.1[k]?) ∧ (∃ g : Nat → Int32, h'.1[107]? = some (.inl (0, 576, .inl g))) ∧ (∃ g : Nat → Int32, h'.1[108]? = some (.inl (2, 576, .inl g))) ∧ (∃ g : Nat → Int32, h'.1[109]? = some (.inl (2, 576, .inl g))) := by
  intro k
  induction k with
  | zero =>
    intro i h f1 f2 f3 hi g72 g107 g108 g109
    have : i = 576 := by omega
    subst this
    refine ⟨h, fun X n d => ?_, rfl, rfl, fun _ _ _ _ => rfl, ⟨f1, g107⟩, ⟨f2, g108⟩, ⟨f3, g109⟩⟩
    refine (r_iloadn f236_2 rfl).trans ?_
    refine (r_sipush (v := 576) f236_3 rfl).trans ?_
    exact r_icmp_ge_t f236_6 (by decide)
  | succ k ih =>
    intro i h f1 f2 f3 hi g72 g107 g108 g109
    have h576 : (576 : Int32) = nI 576 := rfl
    have ec : ¬ 576 ≤ (nI i) := by rw [h576]; exact nI_ge (by omega) (by decide)
    have jc : ¬ ((nI i) < 0 ∨ 576 ≤ Int32.toNatClampNeg (nI i)) := nI_in (by omega) (by decide)
    have e := fun (X : aX) (n d : Nat) => ff_body (X := X) (n := n + (29 * k + 3)) (d := d) (yr := yr) (kk := kk) g72 g107 g108 g109 q25 q44 q45 q46 ec jc
    rw [nI_1] at e
    obtain ⟨h', e', l', u', r', a', b', c'⟩ := ih (i + 1) ((((h.1.set 107 (.inl (0, 576, .inl (upd (f1) (Int32.toNatClampNeg (nI i)) (-1))))).set 108 (.inl (2, 576, .inl (upd (f2) (Int32.toNatClampNeg (nI i)) (0 &&& 1))))).set 109 (.inl (2, 576, .inl (upd (f3) (Int32.toNatClampNeg (nI i)) (0 &&& 1))))), h.2) _ _ _ (by omega) (gs_ne (gs_ne (gs_ne g72 (by decide)) (by decide)) (by decide)) (gs_ne (gs_ne (gs_eq g107) (by decide)) (by decide)) (gs_ne (gs_eq (gs_ne g108 (by decide))) (by decide)) (gs_eq (gs_ne (gs_ne g109 (by decide)) (by decide)))
    refine ⟨h', fun X n d => ?_, l'.trans (by simp), u', fun j j1 j2 j3 => (r' j j1 j2 j3).trans ?_, a', b', c'⟩
    · rw [show n + (29 * (k + 1) + 53) = n + (29 * k + 3) + (29 + 50) by omega]
      refine (e X n d).trans ?_
      rw [show n + (29 * k + 3) + 50 = n + (29 * k + 53) by omega]
      exact e' X n d
    · rw [List.getElem?_set, if_neg (Ne.symm j3), List.getElem?_set, if_neg (Ne.symm j2), List.getElem?_set, if_neg (Ne.symm j1)]
theorem ff_run {h : aH} {fs : List Value} {yr kk : Int32} {f1 f2 f3 : Nat → Int32} (g72 : h.1[72]? = some (.inr (12, fs))) (g107 : h.1[107]? = some (.inl (0, 576, .inl f1))) (g108 : h.1[108]? = some (.inl (2, 576, .inl f2))) (g109 : h.1[109]? = some (.inl (2, 576, .inl f3))) (q25 : fs[25]? = some (.int 0)) (q44 : fs[44]? = some (.ref 107)) (q45 : fs[45]? = some (.ref 108)) (q46 : fs[46]? = some (.ref 109)) (q19 : fs[19]? = some (.int 0)) :
    ∃ h' : aH, (∀ (X : aX) (n d : Nat), arun X (n + 16759) (d + 2) zM236 0 [some (.ref 72), some (.int yr), some (.int kk), none, none] [] h = some (none, h')) ∧ h'.1.length = h.1.length ∧ h'.2 = h.2 ∧ (∀ k, k ≠ 107 → k ≠ 108 → k ≠ 109 → h'.1[k]? = h.1[k]?) ∧ (∃ g : Nat → Int32, h'.1[107]? = some (.inl (0, 576, .inl g))) ∧ (∃ g : Nat → Int32, h'.1[108]? = some (.inl (2, 576, .inl g))) ∧ (∃ g : Nat → Int32, h'.1[109]? = some (.inl (2, 576, .inl g))) := by
  obtain ⟨h', e', l', u', r', a', b', c'⟩ := ff_loop (yr := yr) (kk := kk) q25 q44 q45 q46 576 0 h f1 f2 f3 (by omega) g72 g107 g108 g109
  refine ⟨h', fun X n d => ?_, l', u', r', a', b', c'⟩
  have g := (r' 72 (by decide) (by decide) (by decide)).trans g72
  refine (r_iconst (v := 0) f236_0 rfl).trans ?_
  refine (r_istoren (L' := [some (.ref 72), some (.int yr), some (.int kk), some (.int 0), none]) f236_1 rfl rfl).trans ?_
  refine (e' X n d).trans ?_
  refine (r_iconst (v := 0) f236_49 rfl).trans ?_
  refine (r_istoren (L' := [some (.ref 72), some (.int yr), some (.int kk), some (.int 0), none]) f236_50 rfl rfl).trans ?_
  refine (r_iloadn f236_51 rfl).trans ?_
  refine (r_aloadn f236_52 rfl).trans ?_
  refine (r_get (v := .int 0) f236_53 g q19).trans ?_
  refine (r_icmp_ge_t f236_56 (by decide)).trans ?_
  exact r_vreturn f236_171 rfl
theorem az_e {x : Int32} : (0 ≤ x.toInt → (x / 100).toInt = x.toInt / 100 ∧ (x - x / 100 * 100).toInt = x.toInt % 100) ∧ (x.toInt < 0 → (x / 100).toInt ≤ 0) := by
  refine ⟨fun h => ?_, fun h => ?_⟩
  · obtain ⟨j, hj, rfl⟩ := nI_of (x := x) (by rw [Int32.lt_iff_toInt_lt]; have : (0 : Int32).toInt = 0 := rfl; omega)
    rw [show (100 : Int32) = nI 100 from rfl, pk_rem hj (by decide) (by decide), pk_div hj (by decide) (by decide), nI_toInt (n := j / 100) (by omega), nI_toInt (n := j % 100) (by omega), nI_toInt (n := j) hj]
    omega
  · rw [Int32.toInt_div]
    have h100 : (100 : Int32).toInt = 100 := rfl
    rw [h100]
    have hb : -2147483648 ≤ x.toInt := Int32.le_toInt x
    have ht : x.toInt.tdiv 100 = - ((-x.toInt) / 100) := by
      rw [← Int.neg_neg x.toInt, Int.neg_tdiv, Int.tdiv_eq_ediv_of_nonneg (by omega), Int.neg_neg]
    rw [ht, Int.bmod_eq_of_le (by omega) (by omega)]
    omega

theorem rw_body {X : aX} {n d i a : Nat} {h : aH} {fs : List Value} {f : Nat → Int64} {x1 x2 x3 : Int32} (hx1 : x1 = nI a) (ha : a < 6) (hi : i < 60 * a + 60) (g72 : h.1[72]? = some (.inr (12, fs))) (q : fs[99]? = some (.ref 144)) (ge : h.1[144]? = some (.inl (1, 360, .inr (.inl f)))) :
    arun X (n + 14) d zM320 54 [some (.ref 72), some (.int x1), some (.int x2), some (.int x3), some (.int (nI i))] [] h = arun X n d zM320 54 [some (.ref 72), some (.int x1), some (.int x2), some (.int x3), some (.int (nI (i + 1)))] [] (h.1.set 144 (.inl (1, 360, .inr (.inl (vp_updL f i 0)))), h.2) := by
  have h60 : (60 : Int32) = nI 60 := rfl
  refine (r_iload f320_54 rfl).trans ?_
  refine (r_bipush (v := 60) f320_56 rfl).trans ?_
  refine (r_iloadn f320_58 rfl).trans ?_
  refine (r_imul (v := nI (60 * a)) f320_59 (by rw [hx1, h60, pk_mul])).trans ?_
  refine (r_bipush (v := 60) f320_60 rfl).trans ?_
  refine (r_iadd (v := nI (60 * a + 60)) f320_62 (by rw [h60, nI_add])).trans ?_
  refine (r_icmp_ge_f f320_63 (nI_ge hi (by omega))).trans ?_
  refine (r_aloadn f320_66 rfl).trans ?_
  refine (r_get (v := .ref 144) f320_67 g72 q).trans ?_
  refine (r_iload f320_70 rfl).trans ?_
  refine (r_lconst (v := 0) f320_72 rfl).trans ?_
  refine (r_last (h' := (h.1.set 144 (.inl (1, 360, .inr (.inl (vp_updL f i 0)))), h.2)) f320_73 ge (nI_in (by omega) (by decide)) (by rw [nI_clamp (by omega)])).trans ?_
  refine (r_iinc (v := nI (i + 1)) (L' := [some (.ref 72), some (.int x1), some (.int x2), some (.int x3), some (.int (nI (i + 1)))]) f320_74 rfl (nI_1 i) rfl).trans ?_
  exact r_goto f320_77
theorem rw_loop {x1 x2 x3 : Int32} {a : Nat} (hx1 : x1 = nI a) (ha : a < 6) : ∀ (k i : Nat) (h : aH) (f : Nat → Int64) {fs : List Value}, i + k = 60 * a + 60 → h.1[72]? = some (.inr (12, fs)) → fs[99]? = some (.ref 144) → h.1[144]? = some (.inl (1, 360, .inr (.inl f))) →
    ∃ g : Nat → Int64, ∀ (X : aX) (n d : Nat), arun X (n + (14 * k + 9)) d zM320 54 [some (.ref 72), some (.int x1), some (.int x2), some (.int x3), some (.int (nI i))] [] h = some (some (.int 1), (h.1.set 144 (.inl (1, 360, .inr (.inl g))), h.2)) := by
  have h60 : (60 : Int32) = nI 60 := rfl
  intro k
  induction k with
  | zero =>
    intro i h f fs hi g72 q ge
    have : i = 60 * a + 60 := by omega
    subst this
    refine ⟨f, fun X n d => ?_⟩
    refine (r_iload f320_54 rfl).trans ?_
    refine (r_bipush (v := 60) f320_56 rfl).trans ?_
    refine (r_iloadn f320_58 rfl).trans ?_
    refine (r_imul (v := nI (60 * a)) f320_59 (by rw [hx1, h60, pk_mul])).trans ?_
    refine (r_bipush (v := 60) f320_60 rfl).trans ?_
    refine (r_iadd (v := nI (60 * a + 60)) f320_62 (by rw [h60, nI_add])).trans ?_
    refine (r_icmp_ge_t f320_63 (Int32.le_refl _)).trans ?_
    refine (r_iconst (v := 1) f320_80 rfl).trans ?_
    rw [set_self ge]
    exact r_ireturn f320_81 rfl
  | succ k ih =>
    intro i h f fs hi g72 q ge
    obtain ⟨g, g1⟩ := ih (i + 1) (h.1.set 144 (.inl (1, 360, .inr (.inl (vp_updL f i 0)))), h.2) (vp_updL f i 0) (by omega) (gs_ne g72 (by decide)) q (gs_eq ge)
    refine ⟨g, fun X n d => ?_⟩
    rw [show n + (14 * (k + 1) + 9) = n + (14 * k + 9) + 14 by omega]
    refine (rw_body (X := X) (n := n + (14 * k + 9)) (d := d) (x2 := x2) (x3 := x3) hx1 ha (by omega) g72 q ge).trans ?_
    have := g1 X n d
    simp only [List.set_set] at this
    exact this

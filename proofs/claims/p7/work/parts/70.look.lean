-- ===== by hand: cells made anew; look =====
theorem f41_0 : aF 0 zM41.2.2.2.2.2.2.2 = some (0, (.aload_n 0), 1, 0, 0) := by decide +kernel
theorem f41_1 : aF 1 zM41.2.2.2.2.2.2.2 = some (1, (.getfield 20), 3, 3, 2) := by decide +kernel
theorem f41_4 : aF 4 zM41.2.2.2.2.2.2.2 = some (4, (.iload_n 1), 1, 0, 0) := by decide +kernel
theorem f41_5 : aF 5 zM41.2.2.2.2.2.2.2 = some (5, .aaload, 1, 0, 0) := by decide +kernel
theorem f41_6 : aF 6 zM41.2.2.2.2.2.2.2 = some (6, (.astore 6), 2, 0, 0) := by decide +kernel
theorem f41_8 : aF 8 zM41.2.2.2.2.2.2.2 = some (8, (.aload 6), 2, 0, 0) := by decide +kernel
theorem f41_10 : aF 10 zM41.2.2.2.2.2.2.2 = some (10, (.ifnonnull 25), 3, 35, 0) := by decide +kernel
theorem f41_13 : aF 13 zM41.2.2.2.2.2.2.2 = some (13, (.bipush 60), 2, 0, 0) := by decide +kernel
theorem f41_15 : aF 15 zM41.2.2.2.2.2.2.2 = some (15, (.newarray .int), 2, 0, 0) := by decide +kernel
theorem f41_17 : aF 17 zM41.2.2.2.2.2.2.2 = some (17, (.astore 6), 2, 0, 0) := by decide +kernel
theorem f41_19 : aF 19 zM41.2.2.2.2.2.2.2 = some (19, (.aload 6), 2, 0, 0) := by decide +kernel
theorem f41_21 : aF 21 zM41.2.2.2.2.2.2.2 = some (21, (.sipush 1000), 3, 0, 0) := by decide +kernel
theorem f41_24 : aF 24 zM41.2.2.2.2.2.2.2 = some (24, (.invokestatic 24), 3, 332, 0) := by decide +kernel
theorem f41_27 : aF 27 zM41.2.2.2.2.2.2.2 = some (27, (.aload_n 0), 1, 0, 0) := by decide +kernel
theorem f41_28 : aF 28 zM41.2.2.2.2.2.2.2 = some (28, (.getfield 20), 3, 3, 2) := by decide +kernel
theorem f41_31 : aF 31 zM41.2.2.2.2.2.2.2 = some (31, (.iload_n 1), 1, 0, 0) := by decide +kernel
theorem f41_32 : aF 32 zM41.2.2.2.2.2.2.2 = some (32, (.aload 6), 2, 0, 0) := by decide +kernel
theorem f41_34 : aF 34 zM41.2.2.2.2.2.2.2 = some (34, .aastore, 1, 0, 0) := by decide +kernel
theorem dT_mono {σ σ' : List Nat} (hx : ∀ (q r : Nat), σ[q]? = some r → σ'[q]? = some r) {ty : Nat × Int × Int} {v : Value} (h : dT σ ty v) : dT σ' ty v := by
  unfold dT at h ⊢
  split at h
  · exact h
  · obtain ⟨q, a, b⟩ := h; exact ⟨q, a, hx _ _ b⟩
  · exact h
  · exact h
theorem dC_mono {σ σ' : List Nat} (hx : ∀ (q r : Nat), σ[q]? = some r → σ'[q]? = some r) {t : cRt} {c : aC} (h : dC σ t c) : dC σ' t c := by
  unfold dC at h ⊢
  split at h
  · obtain ⟨fs, a, b, d⟩ := h
    exact ⟨fs, a, b, fun i ty e => (d i ty e).imp (fun v q => ⟨q.1, dT_mono hx q.2⟩)⟩
  · exact h
  · exact h
  · obtain ⟨g, a, b⟩ := h; exact ⟨g, a, fun j q e => hx _ _ (b j q e)⟩
  · exact h
theorem pre_app {σ rs : List Nat} : ∀ (q r : Nat), σ[q]? = some r → (σ ++ rs)[q]? = some r := fun q r e => by
  rw [List.getElem?_append_left (List.getElem?_eq_some_iff.mp e).1]
  exact e
theorem dI_app {σ : List Nat} {h : aH} (I : dI σ h) {rs : List Nat} {cs : List aC} {u : Nat} (hl : rs.length = cs.length) (h146 : ∀ r, r ∈ rs → 146 ≤ r) (hC : ∀ (i r : Nat), rs[i]? = some r → ∃ t c, cRT[r]? = some t ∧ cs[i]? = some c ∧ dC (σ ++ rs) t c) : dI (σ ++ rs) (h.1 ++ cs, u) := by
  obtain ⟨⟨H1, H2, H3, H4⟩, J2, J3⟩ := I
  have old : ∀ k : Nat, k < 146 → (h.1 ++ cs)[k]? = h.1[k]? := fun k hk => by
    have := (List.getElem?_eq_some_iff.mp (H4 k hk)).1
    rw [List.getElem?_append_left (by omega)]
  refine ⟨⟨by rw [List.length_append, List.length_append, H1, hl], fun q r e => ?_, fun q r e hr => ?_, fun r hr => pre_app _ _ (H4 r hr)⟩, dJ_same J2 J3 (fun k hk => old k (by omega)) (fun fs h72 => ⟨fs, (old 72 (by decide)).trans h72, rfl⟩)⟩
  · by_cases hq : q < σ.length
    · rw [List.getElem?_append_left hq] at e
      obtain ⟨t, c, a1, a2, a3⟩ := H2 q r e
      exact ⟨t, c, a1, by rw [List.getElem?_append_left (by omega)]; exact a2, dC_mono pre_app a3⟩
    · rw [List.getElem?_append_right (by omega)] at e
      obtain ⟨t, c, a1, a2, a3⟩ := hC _ _ e
      exact ⟨t, c, a1, by rw [List.getElem?_append_right (by omega), ← H1]; exact a2, a3⟩
  · by_cases hq : q < σ.length
    · rw [List.getElem?_append_left hq] at e
      exact H3 q r e hr
    · rw [List.getElem?_append_right (by omega)] at e
      have := h146 r (List.mem_of_getElem? e)
      omega
theorem fil_upd {p p' : Nat → Bool} {k : Nat} (hk : p k = true) (hk' : p' k = false) (h : ∀ j, j ≠ k → p' j = p j) : ∀ n, (n ≤ k → ((List.range n).filter p').length = ((List.range n).filter p).length) ∧ (k < n → ((List.range n).filter p').length + 1 = ((List.range n).filter p).length)
  | 0 => ⟨fun _ => rfl, fun q => absurd q (by omega)⟩
  | n + 1 => by
    obtain ⟨a, b⟩ := fil_upd hk hk' h n
    rw [List.range_succ, List.filter_append, List.filter_append, List.length_append, List.length_append]
    constructor
    · intro q
      rw [a (by omega)]
      have : p' n = p n := h n (by omega)
      simp only [List.filter_cons, List.filter_nil, this]
    · intro q
      by_cases e : n = k
      · subst e
        rw [a (by omega)]
        simp only [List.filter_cons, List.filter_nil, hk, hk']
        simp
      · have := b (by omega)
        have e2 : p' n = p n := h n e
        simp only [List.filter_cons, List.filter_nil, e2]
        omega
/-- the shape of what is left as it was, without the room -/
def dGn (W : List (Nat × Nat)) (σ0 : List Nat) (h0 : aH) (σ : List Nat) (h : aH) : Prop := (∀ (q r : Nat), σ0[q]? = some r → σ[q]? = some r) ∧ (∀ (q r : Nat) (c0 : aC), σ0[q]? = some r → h0.1[q]? = some c0 → ∃ c, h.1[q]? = some c ∧ dFr W r c0 c)
theorem dGn_trans {W : List (Nat × Nat)} {s0 s1 s2 : List Nat} {h0 h1 h2 : aH} (a : dGn W s0 h0 s1 h1) (b : dGn W s1 h1 s2 h2) : dGn W s0 h0 s2 h2 := by
  refine ⟨fun q r e => b.1 q r (a.1 q r e), fun q r c0 e f => ?_⟩
  obtain ⟨c1, x1, x2⟩ := a.2 q r c0 e f
  obtain ⟨c2, y1, y2⟩ := b.2 q r c1 (a.1 q r e) x1
  exact ⟨c2, y1, dFr_trans x2 y2⟩
theorem dGn_of {W : List (Nat × Nat)} {s0 s1 : List Nat} {h0 h1 : aH} (a : dG W s0 h0 s1 h1) : dGn W s0 h0 s1 h1 := ⟨a.1, a.2.1⟩
theorem dGn_app {W : List (Nat × Nat)} {σ rs : List Nat} {h : aH} {cs : List aC} {u : Nat} : dGn W σ h (σ ++ rs) (h.1 ++ cs, u) := ⟨pre_app, fun q r c0 _ f => ⟨c0, by
    rw [List.getElem?_append_left (List.getElem?_eq_some_iff.mp f).1]
    exact f, dFr_refl _ _ _⟩⟩
/-- a row of references written -/
theorem hI_ref {σ : List Nat} {h : aH} (I : dI σ h) {W : List (Nat × Nat)} {r a n k q : Nat} {rg : Nat} {g : Nat → Option Nat} (hr : r = 42 ∧ a = 4 ∧ n = 10 ∧ rg = 146 ∨ r = 65 ∧ a = 5 ∧ n = 150 ∧ rg = 154) (hW : cWn W r 0 = true) (c : h.1[r]? = some (.inl (a, n, .inr (.inr (.inr (.inr g)))))) (hq : σ[q]? = some rg) (hk : k < n) (hg : g k = none) :
    dI σ (h.1.set r (.inl (a, n, .inr (.inr (.inr (.inr (va_up g k (some q))))))), h.2) ∧ dGn W σ h σ (h.1.set r (.inl (a, n, .inr (.inr (.inr (.inr (va_up g k (some q))))))), h.2) ∧ dPh (h.1.set r (.inl (a, n, .inr (.inr (.inr (.inr (va_up g k (some q))))))), h.2) + (if r = 42 then 3000 else 61) = dPh h := by
  have h146 : r < 146 := by omega
  have hs := I.1.2.2.2 r h146
  obtain ⟨t, ht, t1, t2, t3, t4⟩ : ∃ t, cRT[r]? = some t ∧ t.1 = 3 ∧ t.2.1 = a ∧ t.2.2.1 = n ∧ t.2.2.2.1.toNat = rg := by
    rcases hr with ⟨rfl, rfl, rfl, rfl⟩ | ⟨rfl, rfl, rfl, rfl⟩
    · exact ⟨_, rfl, rfl, rfl, rfl, rfl⟩
    · exact ⟨_, rfl, rfl, rfl, rfl, rfl⟩
  obtain ⟨c', d1, d2⟩ := dH_cell I.1 hs ht
  obtain ⟨g', rfl, d3⟩ := dC_3 d2 t1
  rw [t2, t3, c] at d1
  cases d1
  have hC : dC σ t (.inl (a, n, .inr (.inr (.inr (.inr (va_up g k (some q))))))) := by
    unfold dC
    rw [t1]
    refine ⟨_, by rw [t2, t3], fun j x e => ?_⟩
    unfold va_up at e
    split at e
    · cases e; rw [t4]; exact hq
    · exact d3 j x e
  refine ⟨⟨dH_set I.1 hs ht hC, dJ_same I.2.1 I.2.2 (fun m hm => set_ne' (by omega)) (fun fs h72 => ⟨fs, (set_ne' (by omega)).trans h72, rfl⟩)⟩, ⟨fun _ _ e => e, fun z r' c1 e f => ?_⟩, ?_⟩
  · by_cases hz : r = z
    · subst hz
      rw [hs] at e; cases e
      exact ⟨_, set_eq' f, fun y _ hw => (by rw [hW] at hw; cases hw), fun ci f0 hx => by
        rw [c] at f
        cases f
        cases hx⟩
    · exact ⟨c1, (set_ne' hz).trans f, dFr_refl _ _ _⟩
  · have hf := (fil_upd (p := fun j => (g j).isNone) (p' := fun j => (va_up g k (some q) j).isNone) (k := k) (by rw [hg]; rfl) (by unfold va_up; rw [if_pos rfl]; rfl) (fun j hj => by unfold va_up; rw [if_neg hj]) n).2 hk
    unfold dPh
    rw [List.length_set]
    rcases hr with ⟨rfl, rfl, rfl, rfl⟩ | ⟨rfl, rfl, rfl, rfl⟩
    · have e1 : dNul (h.1.set 42 (.inl (4, 10, .inr (.inr (.inr (.inr (va_up g k (some q))))))), h.2) 65 150 = dNul h 65 150 := dNul_same (set_ne' (by decide))
      have e2 : dNul (h.1.set 42 (.inl (4, 10, .inr (.inr (.inr (.inr (va_up g k (some q))))))), h.2) 42 10 = ((List.range 10).filter (fun j => (va_up g k (some q) j).isNone)).length := by
        unfold dNul
        rw [show (h.1.set 42 (.inl (4, 10, .inr (.inr (.inr (.inr (va_up g k (some q))))))), h.2).1[42]? = _ from set_eq' c]
      have e3 : dNul h 42 10 = ((List.range 10).filter (fun j => (g j).isNone)).length := by
        unfold dNul
        rw [c]
      rw [e1, e2, e3, if_pos rfl]
      dsimp only at hf ⊢
      omega
    · have e1 : dNul (h.1.set 65 (.inl (5, 150, .inr (.inr (.inr (.inr (va_up g k (some q))))))), h.2) 42 10 = dNul h 42 10 := dNul_same (set_ne' (by decide))
      have e2 : dNul (h.1.set 65 (.inl (5, 150, .inr (.inr (.inr (.inr (va_up g k (some q))))))), h.2) 65 150 = ((List.range 150).filter (fun j => (va_up g k (some q) j).isNone)).length := by
        unfold dNul
        rw [show (h.1.set 65 (.inl (5, 150, .inr (.inr (.inr (.inr (va_up g k (some q))))))), h.2).1[65]? = _ from set_eq' c]
      have e3 : dNul h 65 150 = ((List.range 150).filter (fun j => (g j).isNone)).length := by
        unfold dNul
        rw [c]
      rw [e1, e2, e3, if_neg (by decide)]
      dsimp only at hf ⊢
      omega
theorem dPh_app {σ : List Nat} {h : aH} (I : dI σ h) {cs : List aC} {u : Nat} : dPh (h.1 ++ cs, u) + h.2 = dPh h + cs.length + u := by
  have old : ∀ k : Nat, k < 146 → (h.1 ++ cs)[k]? = h.1[k]? := fun k hk => by
    have := (List.getElem?_eq_some_iff.mp (I.1.2.2.2 k hk)).1
    have := I.1.1
    rw [List.getElem?_append_left (by omega)]
  unfold dPh
  rw [dNul_same (h := h) (h1 := (h.1 ++ cs, u)) (old 42 (by decide)), dNul_same (h := h) (h1 := (h.1 ++ cs, u)) (old 65 (by decide)), List.length_append]
  omega
/-- a call of a contract that speaks of one cell made anew -/
theorem dK_r {σ : List Nat} {h : aH} {ρ : List Int} {V : cV} {q rg : Nat} (k : kV ρ V) (hq : σ[q]? = some rg) : dK σ h ρ [q] (V, [], [], [rg], [], [], []) :=
  ⟨k, fun t ht => (by cases ht), fun t ht => (by cases ht), ⟨rfl, fun i r e => by
    match i, e with
    | 0, e => cases e; exact ⟨q, rfl, hq⟩
    | i + 1, e => simp at e⟩, fun t ht => (by cases ht), fun t ht => (by cases ht), fun t ht => (by cases ht)⟩
def lR (ρ : List Int) (rh : List Nat) : List cW → aL → Prop
  | [], [] => True
  | w :: ws, v :: vs => (w.1 = 0 ∨ ∃ u, v = some u ∧ dW ρ rh w u) ∧ lR ρ rh ws vs
  | _, _ => False
theorem lR_len {ρ : List Int} {rh : List Nat} : ∀ (L : List cW) (l : aL), lR ρ rh L l → l.length = L.length
  | [], [], _ => rfl
  | [], _ :: _, h => h.elim
  | _ :: _, [], h => h.elim
  | _ :: ws, _ :: vs, h => by rw [List.length_cons, List.length_cons, lR_len ws vs h.2]
theorem lR_at {ρ : List Int} {rh : List Nat} : ∀ (L : List cW) (l : aL), lR ρ rh L l → ∀ (i : Nat) (w : cW), L[i]? = some w → w.1 = 0 ∨ ∃ v, aG l i = some v ∧ dW ρ rh w v
  | [], _, _, i, w, e => by simp at e
  | _ :: _, [], h, _, _, _ => h.elim
  | w :: ws, v :: vs, h, 0, _, e => by
    cases e
    rcases h.1 with q | ⟨u, rfl, q⟩
    · exact Or.inl q
    · exact Or.inr ⟨u, aG_get.mpr rfl, q⟩
  | w :: ws, v :: vs, h, i + 1, w', e => by
    rcases lR_at ws vs h.2 i w' e with q | ⟨u, q1, q2⟩
    · exact Or.inl q
    · exact Or.inr ⟨u, aG_get.mpr (by have := aG_get.mp q1; simpa using this), q2⟩
theorem dL_R {ρ : List Int} {rh : List Nat} {L : List cW} {l : aL} (h : lR ρ rh L l) : dL ρ rh L l := ⟨lR_len L l h, lR_at L l h⟩
theorem li_i {ρ : List Int} {rh : List Nat} {p : Nat} {x : Int32} (e : ρ[p]? = some x.toInt) : (1 : Nat) = 0 ∨ ∃ u, some (Value.int x) = some u ∧ dW ρ rh (1, p, 0) u := Or.inr ⟨_, rfl, x, x.toInt, rfl, e, by show _ = _ + 0; omega⟩
theorem li_c {ρ : List Int} {rh : List Nat} {c : Nat} (hc : c < 146) : (3 : Nat) = 0 ∨ ∃ u, some (Value.ref c) = some u ∧ dW ρ rh (3, c, 0) u := Or.inr ⟨_, rfl, c, rfl, Or.inl ⟨hc, rfl⟩⟩
theorem li_q {ρ : List Int} {rh : List Nat} {q : Nat} (e : rh[0]? = some q) : (3 : Nat) = 0 ∨ ∃ u, some (Value.ref q) = some u ∧ dW ρ rh (3, 1000, 0) u := Or.inr ⟨_, rfl, q, rfl, Or.inr ⟨by decide, e⟩⟩
theorem li_0 {ρ : List Int} {rh : List Nat} {p : Nat} {o : Int} {v : Option Value} : (0 : Nat) = 0 ∨ ∃ u, v = some u ∧ dW ρ rh (0, p, o) u := Or.inl rfl
theorem wp_goodr {X : aX} {D : Nat} {M : aM} {Q : Option Value → aH → Prop} {pc pc' : Nat} {l l' : aL} {st r : List Value} {h : aH} {C : cC} {Y : aM} (G : dGood X C) (hY : zmt[C.1]? = some Y) {σ : List Nat} (I : dI σ h) {ρ : List Int} {rh : List Nat} {l1 : aL} (K : dK σ h ρ rh C.2.2.2.1.2.2) (L : dL ρ rh C.2.2.2.1.1 l1)
    (hs : ∀ (n d : Nat) (v : Option Value) (h1 : aH), arun X n d Y 0 l1 [] h = some (v, h1) → arun X (n + 1) (d + 1) M pc l st h = arun X n (d + 1) M pc' l' (v.toList ++ r) h1) (hd : C.2.1 + 1 ≤ D)
    (k : ∀ (v : Option Value) (h1 : aH) (σ1 : List Nat), dI σ1 h1 → dG C.2.2.1 σ h σ1 h1 → (∃ P, P ∈ C.2.2.2.2.1 ∧ dPost P σ1 h1 v) → Wp X D M Q pc' l' (v.toList ++ r) h1) : Wp X D M Q pc l st h := by
  obtain ⟨N, v, h1, σ1, e1, e2, e3, e4⟩ := G Y hY l1 h σ ρ rh I K L
  exact wp_call (fun n d e => hs n d v h1 e) hd e1 (k v h1 σ1 e2 e3 e4)
/-- rows of references read -/
theorem hI_rr {σ : List Nat} {h : aH} (I : dI σ h) {r a n rg : Nat} (hr : r = 42 ∧ a = 4 ∧ n = 10 ∧ rg = 146 ∨ r = 65 ∧ a = 5 ∧ n = 150 ∧ rg = 154) : ∃ g : Nat → Option Nat, h.1[r]? = some (.inl (a, n, .inr (.inr (.inr (.inr g))))) ∧ ∀ (j q : Nat), g j = some q → σ[q]? = some rg := by
  obtain ⟨t, ht, t1, t2, t3, t4⟩ : ∃ t, cRT[r]? = some t ∧ t.1 = 3 ∧ t.2.1 = a ∧ t.2.2.1 = n ∧ t.2.2.2.1.toNat = rg := by
    rcases hr with ⟨rfl, rfl, rfl, rfl⟩ | ⟨rfl, rfl, rfl, rfl⟩
    · exact ⟨_, rfl, rfl, rfl, rfl, rfl⟩
    · exact ⟨_, rfl, rfl, rfl, rfl, rfl⟩
  obtain ⟨c', d1, d2⟩ := dH_cell I.1 (I.1.2.2.2 r (by omega)) ht
  obtain ⟨g', rfl, d3⟩ := dC_3 d2 t1
  rw [t2, t3] at d1
  rw [t4] at d3
  exact ⟨g', d1, d3⟩
def cC80t : cC := (41, 6, [(65, 0), (154, 0)], ([(3, 63, .ofNat 0), (1, 1, .ofNat 0), (1, 2, .ofNat 0), (3, 68, .ofNat 0), (1, 3, .ofNat 0), (1, 4, .ofNat 0), (0, 0, .ofNat 0), (0, 0, .ofNat 0), (0, 0, .ofNat 0), (0, 0, .ofNat 0), (0, 0, .ofNat 0), (0, 0, .ofNat 0)], [], ([(.ofNat 0, .ofNat 0), (.ofNat 0, .ofNat 149), (.ofNat 0, .ofNat 9), (.ofNat 0, .ofNat 5), (.negSucc 2147483647, .ofNat 2147483647)], [], [], [], [], [], [])), [([], [(1, 1, .ofNat 0)], ([(.ofNat 0, .ofNat 0), (.ofNat 0, .ofNat 6)], [], [], [], [], [], []))], [(35, ([(3, 63, .ofNat 0), (1, 1, .ofNat 0), (1, 2, .ofNat 0), (3, 68, .ofNat 0), (1, 3, .ofNat 0), (1, 4, .ofNat 0), (3, 1000, .ofNat 0), (0, 0, .ofNat 0), (0, 0, .ofNat 0), (0, 0, .ofNat 0), (0, 0, .ofNat 0), (0, 0, .ofNat 0)], [], ([(.ofNat 0, .ofNat 0), (.ofNat 0, .ofNat 149), (.ofNat 0, .ofNat 9), (.ofNat 0, .ofNat 5), (.negSucc 2147483647, .ofNat 2147483647)], [], [], [154], [], [], [])), (.ofNat 7, [])), (44, ([(3, 63, .ofNat 0), (1, 1, .ofNat 0), (1, 2, .ofNat 0), (3, 68, .ofNat 0), (1, 3, .ofNat 0), (1, 4, .ofNat 0), (3, 1000, .ofNat 0), (1, 5, .ofNat 0), (1, 6, .ofNat 0), (1, 7, .ofNat 0), (0, 0, .ofNat 0), (0, 0, .ofNat 0)], [], ([(.ofNat 0, .ofNat 0), (.ofNat 0, .ofNat 149), (.ofNat 0, .ofNat 9), (.ofNat 0, .ofNat 5), (.negSucc 2147483647, .ofNat 2147483647), (.ofNat 0, .ofNat 6), (.ofNat 0, .ofNat 1), (.ofNat 0, .ofNat 6)], [(5, 7, .ofNat 0), (6, 7, .ofNat 0)], [], [154], [], [], [])), (.ofNat 6, [(.negSucc 0, 7)]))])
theorem ct_80t : cC80t.2.2.2.2.2.all (fun c => crk0 c.2.1 c.2.2 && cseg (cCT0, cCM0, 0, cC80t.2.2.1, cC80t.2.2.2.2.2, some c.2.2) cC80t 3000 c.1 c.2.1) = true := by decide +kernel
theorem hand_80 {X : aX} (hX : X 0 = some (8, zab)) (GFl : dGood X cC317) : dGood X cC80 := by
  intro M hM l h σ ρ rh I K L
  have hM0 : zmt[41]? = some zM41 := rfl
  cases (show zmt[41]? = some M from hM).symm.trans hM0
  have a0 := dL_r L (i := 0) (c := 63) (o := 0) rfl (by decide)
  have a3 := dL_r L (i := 3) (c := 68) (o := 0) rfl (by decide)
  obtain ⟨x1, a1, b1, b1'⟩ := hL_i L K.1 (i := 1) (p := 1) (o := 0) (lo := 0) (hi := 149) rfl rfl
  obtain ⟨x2, a2, b2, b2'⟩ := hL_i L K.1 (i := 2) (p := 2) (o := 0) (lo := 0) (hi := 9) rfl rfl
  obtain ⟨x3, a4, b3, b3'⟩ := hL_i L K.1 (i := 4) (p := 3) (o := 0) (lo := 0) (hi := 5) rfl rfl
  obtain ⟨x4, a5, b4, b4'⟩ := hL_i L K.1 (i := 5) (p := 4) (o := 0) (lo := (-2147483648)) (hi := 2147483647) rfl rfl
  obtain ⟨u0, l1, rfl, e1⟩ := hcons (show l.length = 12 from L.1)
  obtain ⟨u1, l2, rfl, e2⟩ := hcons e1
  obtain ⟨u2, l3, rfl, e3⟩ := hcons e2
  obtain ⟨u3, l4, rfl, e4⟩ := hcons e3
  obtain ⟨u4, l5, rfl, e5⟩ := hcons e4
  obtain ⟨u5, l6, rfl, e6⟩ := hcons e5
  obtain ⟨u6, l7, rfl, e7⟩ := hcons e6
  obtain ⟨u7, l8, rfl, e8⟩ := hcons e7
  obtain ⟨u8, l9, rfl, e9⟩ := hcons e8
  obtain ⟨u9, l10, rfl, e10⟩ := hcons e9
  obtain ⟨u10, l11, rfl, e11⟩ := hcons e10
  obtain ⟨u11, l12, rfl, e12⟩ := hcons e11
  cases hnil e12
  cases Option.some.inj a0
  cases Option.some.inj a1
  cases Option.some.inj a2
  cases Option.some.inj a3
  cases Option.some.inj a4
  cases Option.some.inj a5
  have tail : ∀ (σ1 : List Nat) (h1 : aH) (q : Nat), dI σ1 h1 → σ1[q]? = some 154 → dG cC80.2.2.1 σ h σ1 h1 → Wp X 6 zM41 (hQ cC80 σ h) 35 [some (.ref 63), some (.int x1), some (.int x2), some (.ref 68), some (.int x3), some (.int x4), some (.ref q), u7, u8, u9, u10, u11] [] h1 := by
    intro σ1 h1 q I1 hq G1
    have E := ctail_s (C := cC80t) hX (cCMt_ok cCM0_t) (fun j hj => absurd hj (by omega)) ct_80t (M := zM41) rfl (c := cC80t.2.2.2.2.2.headD (0, ([], [], ([], [], [], [], [], [], [])), (0, []))) List.mem_cons_self I1 (ρ := [0, x1.toInt, x2.toInt, x3.toInt, x4.toInt]) (rh := [q]) (l := [some (.ref 63), some (.int x1), some (.int x2), some (.ref 68), some (.int x3), some (.int x4), some (.ref q), u7, u8, u9, u10, u11]) (sv := []) (dK_r (kV_of rfl ⟨⟨by decide, by decide⟩, ⟨by show (0 : Int) ≤ _; omega, by show _ ≤ (149 : Int); omega⟩, ⟨by show (0 : Int) ≤ _; omega, by show _ ≤ (9 : Int); omega⟩, ⟨by show (0 : Int) ≤ _; omega, by show _ ≤ (5 : Int); omega⟩, iR _, trivial⟩) hq) (dL_R ⟨li_c (by decide), li_i rfl, li_i rfl, li_c (by decide), li_i rfl, li_i rfl, li_q rfl, li_0, li_0, li_0, li_0, li_0, trivial⟩) trivial
    exact wp_dEnd (C0 := cC80) E rfl rfl rfl G1
  refine hEnd ?_
  show Wp X 6 zM41 _ 0 [some (.ref 63), some (.int x1), some (.int x2), some (.ref 68), some (.int x3), some (.int x4), u6, u7, u8, u9, u10, u11] [] h
  obtain ⟨g, c65, hg⟩ := hI_rr I (r := 65) (a := 5) (n := 150) (rg := 154) (Or.inr ⟨rfl, rfl, rfl, rfl⟩)
  refine wp1 (fun n d => r_aloadn f41_0 rfl) ?_
  obtain ⟨fs1001, c1001⟩ := hI_o I (r := 63) (ci := 3) (by decide +kernel)
  have F1002 := hI_r I c1001 (f := 2) (q := 65) (by decide +kernel)
  refine w_get f41_1 c1001 F1002 ?_
  refine wp1 (fun n d => r_iloadn f41_4 rfl) ?_
  cases hgx : g x1.toInt.toNat with
  | some q =>
    refine wp1 (fun n d => r_aald5 (v := .ref q) f41_5 c65 (ix_ok (by omega) (by omega)) (by show arf (g x1.toInt.toNat) = _; rw [hgx]; rfl)) ?_
    refine wp1 (fun n d => r_astore (L' := [some (.ref 63), some (.int x1), some (.int x2), some (.ref 68), some (.int x3), some (.int x4), some (.ref q), u7, u8, u9, u10, u11]) f41_6 rfl rfl) ?_
    refine wp1 (fun n d => r_aload f41_8 rfl) ?_
    refine wp1 (fun n d => r_ifnonnull_r f41_10) ?_
    exact tail σ h q I (hg _ _ hgx) (dG_refl _ _ _)
  | none =>
    refine wp1 (fun n d => r_aald5 (v := .null) f41_5 c65 (ix_ok (by omega) (by omega)) (by show arf (g x1.toInt.toNat) = _; rw [hgx]; rfl)) ?_
    refine wp1 (fun n d => r_astoreN (L' := [some (.ref 63), some (.int x1), some (.int x2), some (.ref 68), some (.int x3), some (.int x4), some (.null), u7, u8, u9, u10, u11]) f41_6 rfl rfl) ?_
    refine wp1 (fun n d => r_aloadN f41_8 rfl) ?_
    refine wp1 (fun n d => r_ifnonnull_n f41_10) ?_
    refine w_bipush f41_13 (fun v13 hv13 => ?_)
    have n13 : v13.toNatClampNeg = 60 := by show v13.toInt.toNat = 60; omega
    refine wp1 (fun n d => r_newa (o := h.1.length) (h' := (h.1 ++ [.inl (0, 60, .inl (fun _ => 0))], h.2 + 60)) f41_15 ?_ rfl (by rw [n13]; rfl)) ?_
    · rintro (q | q)
      · have := Int32.lt_iff_toInt_lt.mp q
        rw [hv13] at this
        exact absurd this (by decide)
      · have := Int32.lt_iff_toInt_lt.mp q
        rw [hv13] at this
        exact absurd this (by decide)
    have I1 : dI (σ ++ [154]) (h.1 ++ [.inl (0, 60, .inl (fun _ => 0))], h.2 + 60) := dI_app I rfl (fun r hr => by cases List.mem_singleton.mp hr; decide) (fun i r e => by
      match i, e with
      | 0, e =>
        cases e
        exact ⟨_, _, rfl, rfl, ⟨_, rfl, fun j _ => by show (-2147483648 : Int) ≤ ((0 : Int32)).toInt ∧ ((0 : Int32)).toInt ≤ (2147483647 : Int); decide⟩⟩
      | i + 1, e => simp at e)
    have P1 := dPh_app I (cs := [.inl (0, 60, .inl (fun _ => 0))]) (u := h.2 + 60)
    have q1 : (σ ++ [154])[h.1.length]? = some 154 := by rw [List.getElem?_append_right (by rw [I.1.1]; exact Nat.le_refl _), I.1.1, Nat.sub_self]; rfl
    have N1 : dGn cC80.2.2.1 σ h (σ ++ [154]) (h.1 ++ [.inl (0, 60, .inl (fun _ => 0))], h.2 + 60) := dGn_app
    have c65b : ((h.1 ++ [.inl (0, 60, .inl (fun _ => 0))], h.2 + 60) : aH).1[65]? = some (.inl (5, 150, .inr (.inr (.inr (.inr g))))) := by
      show (h.1 ++ [.inl (0, 60, .inl (fun _ => 0))])[65]? = _
      rw [List.getElem?_append_left (List.getElem?_eq_some_iff.mp c65).1]; exact c65
    generalize (h.1 ++ [.inl (0, 60, .inl (fun _ => 0))], h.2 + 60) = h1 at *
    generalize h.1.length = q at *
    refine wp1 (fun n d => r_astore (L' := [some (.ref 63), some (.int x1), some (.int x2), some (.ref 68), some (.int x3), some (.int x4), some (.ref q), u7, u8, u9, u10, u11]) f41_17 rfl rfl) ?_
    refine wp1 (fun n d => r_aload f41_19 rfl) ?_
    refine w_sipush f41_21 (fun v21 hv21 => ?_)
    refine wp_goodr GFl (Y := zM332) (show zmt[332]? = some zM332 from rfl) I1 (ρ := [0, v21.toInt]) (rh := [q]) (dK_r (kV_of rfl ⟨⟨by decide, by decide⟩, ⟨by show (1000 : Int) ≤ _; omega, by show _ ≤ (1000 : Int); omega⟩, trivial⟩) q1) (dL_R (l := [some (.ref q), some (.int v21), none, none]) ⟨li_q rfl, li_i rfl, li_0, li_0, trivial⟩) (fun n d v h' e => r_stat (as := [.ref q, .int v21]) (r := []) f41_24 rfl (show zmt[332]? = some zM332 from rfl) rfl rfl rfl rfl rfl rfl e) (by decide) (fun v h2 σ2 I2 G2 P2 => ?_)
    cases rpost_0 P2 rfl
    show Wp _ _ _ _ 27 [some (.ref 63), some (.int x1), some (.int x2), some (.ref 68), some (.int x3), some (.int x4), some (.ref q), u7, u8, u9, u10, u11] [] _
    have q2 := G2.1 _ _ q1
    have c65c := dG_a I1.1 G2 c65b (by decide) rfl
    obtain ⟨fsz, c63⟩ := hI_o I2 (r := 63) (ci := 3) (by decide +kernel)
    have F2 := hI_r I2 c63 (f := 2) (q := 65) (by decide +kernel)
    refine wp1 (fun n d => r_aloadn f41_27 rfl) ?_
    refine w_get f41_28 c63 F2 ?_
    refine wp1 (fun n d => r_iloadn f41_31 rfl) ?_
    refine wp1 (fun n d => r_aload f41_32 rfl) ?_
    obtain ⟨cq, d1, d2⟩ := dH_cell I2.1 q2 (t := (cRT[154]?).getD (0, 0, 0, 0, 0, [])) rfl
    obtain ⟨gq, rfl, -⟩ := dC_1 d2 rfl
    obtain ⟨I3, N3, P3⟩ := hI_ref I2 (W := cC80.2.2.1) (r := 65) (a := 5) (n := 150) (k := x1.toInt.toNat) (q := q) (rg := 154) (Or.inr ⟨rfl, rfl, rfl, rfl⟩) (by decide) c65c q2 (by omega) hgx
    refine wp1 (fun n d => r_aast5 f41_34 c65c d1 (ix_ok (by omega) (by omega)) rfl) ?_
    refine tail σ2 _ q I3 q2 ⟨fun z r e => G2.1 z r (N1.1 z r e), (dGn_trans N1 (dGn_trans (dGn_of (dG_sub (by decide) G2)) N3)).2, ?_⟩
    have G23 := G2.2.2
    rw [if_neg (by decide)] at P3
    simp only [List.length_singleton] at P1
    show dPh (h2.1.set 65 (.inl (5, 150, .inr (.inr (.inr (.inr (va_up g x1.toInt.toNat (some q))))))), h2.2) ≤ dPh h
    have P3' : dPh (h2.1.set 65 (.inl (5, 150, .inr (.inr (.inr (.inr (va_up g x1.toInt.toNat (some q))))))), h2.2) + 61 = dPh h2 := P3
    omega

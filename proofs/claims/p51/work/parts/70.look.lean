-- ===== 70.look: 3 texts =====
section
-- ===== by hand: cells made anew; look =====
theorem f41_0 : aF 0 zM41.2.2.2.2.2.2.2 = some (0, (.aload_n 0), 1, 0, 0) := by decide +kernel
theorem f41_1 : aF 1 zM41.2.2.2.2.2.2.2 = some (1, (.getfield 20), 3, 3, 2) := by decide +kernel
theorem f41_4 : aF 4 zM41.2.2.2.2.2.2.2 = some (4, (.iload_n 1), 1, 0, 0) := by decide +kernel
theorem f41_5 : aF 5 zM41.2.2.2.2.2.2.2 = some (5, .aaload, 1, 0, 0) := by decide +kernel
theorem f41_6 : aF 6 zM41.2.2.2.2.2.2.2 = some (6, (.astore 6), 2, 0, 0) := by decide +kernel
theorem f41_8 : aF 8 zM41.2.2.2.2.2.2.2 = some (8, (.aload 6), 2, 0, 0) := by decide +kernel
theorem f41_10 : aF 10 zM41.2.2.2.2.2.2.2 = some (10, (.ifnonnull 25), 3, 35, 0) := by decide +kernel
theorem f41_13 : aF 13 zM41.2.2.2.2.2.2.2 = some (13, (.bipush 60), 2, 0, 0) := by decide +kernel
theorem f41_15 : aF 15 zM41.2.2.2.2.2.2.2 = some (15, (.newarray .int), 2, 0, 0) := by decide +kernel
theorem f41_17 : aF 17 zM41.2.2.2.2.2.2.2 = some (17, (.astore 6), 2, 0, 0) := by decide +kernel
theorem f41_19 : aF 19 zM41.2.2.2.2.2.2.2 = some (19, (.aload 6), 2, 0, 0) := by decide +kernel
theorem f41_21 : aF 21 zM41.2.2.2.2.2.2.2 = some (21, (.sipush 1000), 3, 0, 0) := by decide +kernel
theorem f41_24 : aF 24 zM41.2.2.2.2.2.2.2 = some (24, (.invokestatic 24), 3, 332, 0) := by decide +kernel
theorem f41_27 : aF 27 zM41.2.2.2.2.2.2.2 = some (27, (.aload_n 0), 1, 0, 0) := by decide +kernel
theorem f41_28 : aF 28 zM41.2.2.2.2.2.2.2 = some (28, (.getfield 20), 3, 3, 2) := by decide +kernel
theorem f41_31 : aF 31 zM41.2.2.2.2.2.2.2 = some (31, (.iload_n 1), 1, 0, 0) := by decide +kernel
theorem f41_32 : aF 32 zM41.2.2.2.2.2.2.2 = some (32, (.aload 6), 2, 0, 0) := by decide +kernel
theorem f41_34 : aF 34 zM41.2.2.2.2.2.2.2 = some (34, .aastore, 1, 0, 0) := by decide +kernel
theorem dT_mono {σ σ' : List Nat} (hx : ∀ (q r : Nat), σ[q]? = some r → σ'[q]? = some r) {ty : Nat × Int × Int} {v : Value} (h : dT σ ty v) : dT σ' ty v := by
  unfold dT at h ⊢
  split at h
  · exact h
  · obtain ⟨q, a, b⟩ := h; exact ⟨q, a, hx _ _ b⟩
  · exact h
  · exact h
theorem dC_mono {σ σ' : List Nat} (hx : ∀ (q r : Nat), σ[q]? = some r → σ'[q]? = some r) {t : cRt} {c : aC} (h : dC σ t c) : dC σ' t c := by
  unfold dC at h ⊢
  split at h
  · obtain ⟨fs, a, b, d⟩ := h
    exact ⟨fs, a, b, fun i ty e => (d i ty e).imp (fun v q => ⟨q.1, dT_mono hx q.2⟩)⟩
  · exact h
  · exact h
  · obtain ⟨g, a, b⟩ := h; exact ⟨g, a, fun j q e => hx _ _ (b j q e)⟩
  · exact h
theorem pre_app {σ rs : List Nat} : ∀ (q r : Nat), σ[q]? = some r → (σ ++ rs)[q]? = some r := fun q r e => by
  rw [List.getElem?_append_left (List.getElem?_eq_some_iff.mp e).1]
  exact e
theorem dI_app {σ : List Nat} {h : aH} (I : dI σ h) {rs : List Nat} {cs : List aC} {u : Nat} (hl : rs.length = cs.length) (h146 : ∀ r, r ∈ rs → 146 ≤ r) (hC : ∀ (i r : Nat), rs[i]? = some r → ∃ t c, cRT[r]? = some t ∧ cs[i]? = some c ∧ dC (σ ++ rs) t c) : dI (σ ++ rs) (h.1 ++ cs, u) := by
  obtain ⟨⟨H1, H2, H3, H4⟩, J2, J3⟩ := I
  have old : ∀ k : Nat, k < 146 → (h.1 ++ cs)[k]? = h.1[k]? := fun k hk => by
    have := (List.getElem?_eq_some_iff.mp (H4 k hk)).1
    rw [List.getElem?_append_left (by omega)]
  refine ⟨⟨by rw [List.length_append, List.length_append, H1, hl], fun q r e => ?_, fun q r e hr => ?_, fun r hr => pre_app _ _ (H4 r hr)⟩, dJ_same J2 J3 (fun k hk => old k (by omega)) (fun fs h72 => ⟨fs, (old 72 (by decide)).trans h72, rfl⟩)⟩
  · by_cases hq : q < σ.length
    · rw [List.getElem?_append_left hq] at e
      obtain ⟨t, c, a1, a2, a3⟩ := H2 q r e
      exact ⟨t, c, a1, by rw [List.getElem?_append_left (by omega)]; exact a2, dC_mono pre_app a3⟩
    · rw [List.getElem?_append_right (by omega)] at e
      obtain ⟨t, c, a1, a2, a3⟩ := hC _ _ e
      exact ⟨t, c, a1, by rw [List.getElem?_append_right (by omega), ← H1]; exact a2, a3⟩
  · by_cases hq : q < σ.length
    · rw [List.getElem?_append_left hq] at e
      exact H3 q r e hr
    · rw [List.getElem?_append_right (by omega)] at e
      have := h146 r (List.mem_of_getElem? e)
      omega
theorem fil_upd {p p' : Nat → Bool} {k : Nat} (hk : p k = true) (hk' : p' k = false) (h : ∀ j, j ≠ k → p' j = p j) : ∀ n, (n ≤ k → ((List.range n).filter p').length = ((List.range n).filter p).length) ∧ (k < n → ((List.range n).filter p').length + 1 = ((List.range n).filter p).length)
  | 0 => ⟨fun _ => rfl, fun q => absurd q (by omega)⟩
  | n + 1 => by
    obtain ⟨a, b⟩ := fil_upd hk hk' h n
    rw [List.range_succ, List.filter_append, List.filter_append, List.length_append, List.length_append]
    constructor
    · intro q
      rw [a (by omega)]
      have : p' n = p n := h n (by omega)
      simp only [List.filter_cons, List.filter_nil, this]
    · intro q
      by_cases e : n = k
      · subst e
        rw [a (by omega)]
        simp only [List.filter_cons, List.filter_nil, hk, hk']
        simp
      · have := b (by omega)
        have e2 : p' n = p n := h n e
        simp only [List.filter_cons, List.filter_nil, e2]
        omega
def dGn (W : List (Nat × Nat)) (σ0 : List Nat) (h0 : aH) (σ : List Nat) (h : aH) : Prop := (∀ (q r : Nat), σ0[q]? = some r → σ[q]? = some r) ∧ (∀ (q r : Nat) (c0 : aC), σ0[q]? = some r → h0.1[q]? = some c0 → ∃ c, h.1[q]? = some c ∧ dFr W r c0 c)
theorem dGn_trans {W : List (Nat × Nat)} {s0 s1 s2 : List Nat} {h0 h1 h2 : aH} (a : dGn W s0 h0 s1 h1) (b : dGn W s1 h1 s2 h2) : dGn W s0 h0 s2 h2 := by
  refine ⟨fun q r e => b.1 q r (a.1 q r e), fun q r c0 e f => ?_⟩
  obtain ⟨c1, x1, x2⟩ := a.2 q r c0 e f
  obtain ⟨c2, y1, y2⟩ := b.2 q r c1 (a.1 q r e) x1
  exact ⟨c2, y1, dFr_trans x2 y2⟩
theorem dGn_of {W : List (Nat × Nat)} {s0 s1 : List Nat} {h0 h1 : aH} (a : dG W s0 h0 s1 h1) : dGn W s0 h0 s1 h1 := ⟨a.1, a.2.1⟩
theorem dGn_app {W : List (Nat × Nat)} {σ rs : List Nat} {h : aH} {cs : List aC} {u : Nat} : dGn W σ h (σ ++ rs) (h.1 ++ cs, u) := ⟨pre_app, fun q r c0 _ f => ⟨c0, by
    rw [List.getElem?_append_left (List.getElem?_eq_some_iff.mp f).1]
    exact f, dFr_refl _ _ _⟩⟩
theorem hI_ref {σ : List Nat} {h : aH} (I : dI σ h) {W : List (Nat × Nat)} {r a n k q : Nat} {rg : Nat} {g : Nat → Option Nat} (hr : r = 42 ∧ a = 4 ∧ n = 10 ∧ rg = 146 ∨ r = 65 ∧ a = 5 ∧ n = 150 ∧ rg = 154) (hW : cWn W r 0 = true) (c : h.1[r]? = some (.inl (a, n, .inr (.inr (.inr (.inr g)))))) (hq : σ[q]? = some rg) (hk : k < n) (hg : g k = none) :
    dI σ (h.1.set r (.inl (a, n, .inr (.inr (.inr (.inr (va_up g k (some q))))))), h.2) ∧ dGn W σ h σ (h.1.set r (.inl (a, n, .inr (.inr (.inr (.inr (va_up g k (some q))))))), h.2) ∧ dPh (h.1.set r (.inl (a, n, .inr (.inr (.inr (.inr (va_up g k (some q))))))), h.2) + (if r = 42 then 3000 else 61) = dPh h := by
  have h146 : r < 146 := by omega
  have hs := I.1.2.2.2 r h146
  obtain ⟨t, ht, t1, t2, t3, t4⟩ : ∃ t, cRT[r]? = some t ∧ t.1 = 3 ∧ t.2.1 = a ∧ t.2.2.1 = n ∧ t.2.2.2.1.toNat = rg := by
    rcases hr with ⟨rfl, rfl, rfl, rfl⟩ | ⟨rfl, rfl, rfl, rfl⟩
    · exact ⟨_, rfl, rfl, rfl, rfl, rfl⟩
    · exact ⟨_, rfl, rfl, rfl, rfl, rfl⟩
  obtain ⟨c', d1, d2⟩ := dH_cell I.1 hs ht
  obtain ⟨g', rfl, d3⟩ := dC_3 d2 t1
  rw [t2, t3, c] at d1
  cases d1
  have hC : dC σ t (.inl (a, n, .inr (.inr (.inr (.inr (va_up g k (some q))))))) := by
    unfold dC
    rw [t1]
    refine ⟨_, by rw [t2, t3], fun j x e => ?_⟩
    unfold va_up at e
    split at e
    · cases e; rw [t4]; exact hq
    · exact d3 j x e
  refine ⟨⟨dH_set I.1 hs ht hC, dJ_same I.2.1 I.2.2 (fun m hm => set_ne' (by omega)) (fun fs h72 => ⟨fs, (set_ne' (by omega)).trans h72, rfl⟩)⟩, ⟨fun _ _ e => e, fun z r' c1 e f => ?_⟩, ?_⟩
  · by_cases hz : r = z
    · subst hz
      rw [hs] at e; cases e
      exact ⟨_, set_eq' f, fun y _ hw => (by rw [hW] at hw; cases hw), fun ci f0 hx => by
        rw [c] at f
        cases f
        cases hx⟩
    · exact ⟨c1, (set_ne' hz).trans f, dFr_refl _ _ _⟩
  · have hf := (fil_upd (p := fun j => (g j).isNone) (p' := fun j => (va_up g k (some q) j).isNone) (k := k) (by rw [hg]; rfl) (by unfold va_up; rw [if_pos rfl]; rfl) (fun j hj => by unfold va_up; rw [if_neg hj]) n).2 hk
    unfold dPh
    rw [List.length_set]
    rcases hr with ⟨rfl, rfl, rfl, rfl⟩ | ⟨rfl, rfl, rfl, rfl⟩
    · have e1 : dNul (h.1.set 42 (.inl (4, 10, .inr (.inr (.inr (.inr (va_up g k (some q))))))), h.2) 65 150 = dNul h 65 150 := dNul_same (set_ne' (by decide))
      have e2 : dNul (h.1.set 42 (.inl (4, 10, .inr (.inr (.inr (.inr (va_up g k (some q))))))), h.2) 42 10 = ((List.range 10).filter (fun j => (va_up g k (some q) j).isNone)).length := by
        unfold dNul
        rw [show (h.1.set 42 (.inl (4, 10, .inr (.inr (.inr (.inr (va_up g k (some q))))))), h.2).1[42]? = _ from set_eq' c]
      have e3 : dNul h 42 10 = ((List.range 10).filter (fun j => (g j).isNone)).length := by
        unfold dNul
        rw [c]
      rw [e1, e2, e3, if_pos rfl]
      dsimp only at hf ⊢
      omega
    · have e1 : dNul (h.1.set 65 (.inl (5, 150, .inr (.inr (.inr (.inr (va_up g k (some q))))))), h.2) 42 10 = dNul h 42 10 := dNul_same (set_ne' (by decide))
      have e2 : dNul (h.1.set 65 (.inl (5, 150, .inr (.inr (.inr (.inr (va_up g k (some q))))))), h.2) 65 150 = ((List.range 150).filter (fun j => (va_up g k (some q) j).isNone)).length := by
        unfold dNul
        rw [show (h.1.set 65 (.inl (5, 150, .inr (.inr (.inr (.inr (va_up g k (some q))))))), h.2).1[65]? = _ from set_eq' c]
      have e3 : dNul h 65 150 = ((List.range 150).filter (fun j => (g j).isNone)).length := by
        unfold dNul
        rw [c]
      rw [e1, e2, e3, if_neg (by decide)]
      dsimp only at hf ⊢
      omega
theorem dPh_app {σ : List Nat} {h : aH} (I : dI σ h) {cs : List aC} {u : Nat} : dPh (h.1 ++ cs, u) + h.2 = dPh h + cs.length + u := by
  have old : ∀ k : Nat, k < 146 → (h.1 ++ cs)[k]? = h.1[k]? := fun k hk => by
    have := (List.getElem?_eq_some_iff.mp (I.1.2.2.2 k hk)).1
    have := I.1.1
    rw [List.getElem?_append_left (by omega)]
  unfold dPh
  rw [dNul_same (h := h) (h1 := (h.1 ++ cs, u)) (old 42 (by decide)), dNul_same (h := h) (h1 := (h.1 ++ cs, u)) (old 65 (by decide)), List.length_append]
  omega
theorem dK_r {σ : List Nat} {h : aH} {ρ : List Int} {V : cV} {q rg : Nat} (k : kV ρ V) (hq : σ[q]? = some rg) : dK σ h ρ [q] (V, [], [], [rg], [], [], []) :=
  ⟨k, fun t ht => (by cases ht), fun t ht => (by cases ht), ⟨rfl, fun i r e => by
    match i, e with
    | 0, e => cases e; exact ⟨q, rfl, hq⟩
    | i + 1, e => simp at e⟩, fun t ht => (by cases ht), fun t ht => (by cases ht), fun t ht => (by cases ht)⟩
def lR (ρ : List Int) (rh : List Nat) : List cW → aL → Prop
  | [], [] => True
  | w :: ws, v :: vs => (w.1 = 0 ∨ ∃ u, v = some u ∧ dW ρ rh w u) ∧ lR ρ rh ws vs
  | _, _ => False
theorem lR_len {ρ : List Int} {rh : List Nat} : ∀ (L : List cW) (l : aL), lR ρ rh L l → l.length = L.length
  | [], [], _ => rfl
  | [], _ :: _, h => h.elim
  | _ :: _, [], h => h.elim
  | _ :: ws, _ :: vs, h => by rw [List.length_cons, List.length_cons, lR_len ws vs h.2]
theorem lR_at {ρ : List Int} {rh : List Nat} : ∀ (L : List cW) (l : aL), lR ρ rh L l → ∀ (i : Nat) (w : cW), L[i]? = some w → w.1 = 0 ∨ ∃ v, aG l i = some v ∧ dW ρ rh w v
  | [], _, _, i, w, e => by simp at e
  | _ :: _, [], h, _, _, _ => h.elim
  | w :: ws, v :: vs, h, 0, _, e => by
    cases e
    rcases h.1 with q | ⟨u, rfl, q⟩
    · exact Or.inl q
    · exact Or.inr ⟨u, aG_get.mpr rfl, q⟩
  | w :: ws, v :: vs, h, i + 1, w', e => by
    rcases lR_at ws vs h.2 i w' e with q | ⟨u, q1, q2⟩
    · exact Or.inl q
    · exact Or.inr ⟨u, aG_get.mpr (by have := aG_get.mp q1; simpa using this), q2⟩
theorem dL_R {ρ : List Int} {rh : List Nat} {L : List cW} {l : aL} (h : lR ρ rh L l) : dL ρ rh L l := ⟨lR_len L l h, lR_at L l h⟩
theorem li_i {ρ : List Int} {rh : List Nat} {p : Nat} {x : Int32} (e : ρ[p]? = some x.toInt) : (1 : Nat) = 0 ∨ ∃ u, some (Value.int x) = some u ∧ dW ρ rh (1, p, 0) u := Or.inr ⟨_, rfl, x, x.toInt, rfl, e, by show _ = _ + 0; omega⟩
theorem li_c {ρ : List Int} {rh : List Nat} {c : Nat} (hc : c < 146) : (3 : Nat) = 0 ∨ ∃ u, some (Value.ref c) = some u ∧ dW ρ rh (3, c, 0) u := Or.inr ⟨_, rfl, c, rfl, Or.inl ⟨hc, rfl⟩⟩
theorem li_q {ρ : List Int} {rh : List Nat} {q : Nat} (e : rh[0]? = some q) : (3 : Nat) = 0 ∨ ∃ u, some (Value.ref q) = some u ∧ dW ρ rh (3, 1000, 0) u := Or.inr ⟨_, rfl, q, rfl, Or.inr ⟨by decide, e⟩⟩
theorem li_0 {ρ : List Int} {rh : List Nat} {p : Nat} {o : Int} {v : Option Value} : (0 : Nat) = 0 ∨ ∃ u, v = some u ∧ dW ρ rh (0, p, o) u := Or.inl rfl
theorem wp_goodr {X : aX} {D : Nat} {M : aM} {Q : Option Value → aH → Prop} {pc pc' : Nat} {l l' : aL} {st r : List Value} {h : aH} {C : cC} {Y : aM} (G : dGood X C) (hY : zmt[C.1]? = some Y) {σ : List Nat} (I : dI σ h) {ρ : List Int} {rh : List Nat} {l1 : aL} (K : dK σ h ρ rh C.2.2.2.1.2.2) (L : dL ρ rh C.2.2.2.1.1 l1)
    (hs : ∀ (n d : Nat) (v : Option Value) (h1 : aH), arun X n d Y 0 l1 [] h = some (v, h1) → arun X (n + 1) (d + 1) M pc l st h = arun X n (d + 1) M pc' l' (v.toList ++ r) h1) (hd : C.2.1 + 1 ≤ D)
    (k : ∀ (v : Option Value) (h1 : aH) (σ1 : List Nat), dI σ1 h1 → dG C.2.2.1 σ h σ1 h1 → (∃ P, P ∈ C.2.2.2.2.1 ∧ dPost P σ1 h1 v) → Wp X D M Q pc' l' (v.toList ++ r) h1) : Wp X D M Q pc l st h := by
  obtain ⟨N, v, h1, σ1, e1, e2, e3, e4⟩ := G Y hY l1 h σ ρ rh I K L
  exact wp_call (fun n d e => hs n d v h1 e) hd e1 (k v h1 σ1 e2 e3 e4)
theorem hI_rr {σ : List Nat} {h : aH} (I : dI σ h) {r a n rg : Nat} (hr : r = 42 ∧ a = 4 ∧ n = 10 ∧ rg = 146 ∨ r = 65 ∧ a = 5 ∧ n = 150 ∧ rg = 154) : ∃ g : Nat → Option Nat, h.1[r]? = some (.inl (a, n, .inr (.inr (.inr (.inr g))))) ∧ ∀ (j q : Nat), g j = some q → σ[q]? = some rg := by
  obtain ⟨t, ht, t1, t2, t3, t4⟩ : ∃ t, cRT[r]? = some t ∧ t.1 = 3 ∧ t.2.1 = a ∧ t.2.2.1 = n ∧ t.2.2.2.1.toNat = rg := by
    rcases hr with ⟨rfl, rfl, rfl, rfl⟩ | ⟨rfl, rfl, rfl, rfl⟩
    · exact ⟨_, rfl, rfl, rfl, rfl, rfl⟩
    · exact ⟨_, rfl, rfl, rfl, rfl, rfl⟩
  obtain ⟨c', d1, d2⟩ := dH_cell I.1 (I.1.2.2.2 r (by omega)) ht
  obtain ⟨g', rfl, d3⟩ := dC_3 d2 t1
  rw [t2, t3] at d1
  rw [t4] at d3
  exact ⟨g', d1, d3⟩
def cC80t : cC := (41, 6, [(65, 0), (154, 0)], ([(3, 63, .ofNat 0), (1, 1, .ofNat 0), (1, 2, .ofNat 0), (3, 68, .ofNat 0), (1, 3, .ofNat 0), (1, 4, .ofNat 0), (0, 0, .ofNat 0), (0, 0, .ofNat 0), (0, 0, .ofNat 0), (0, 0, .ofNat 0), (0, 0, .ofNat 0), (0, 0, .ofNat 0)], [], ([(.ofNat 0, .ofNat 0), (.ofNat 0, .ofNat 149), (.ofNat 0, .ofNat 9), (.ofNat 0, .ofNat 5), (.negSucc 2147483647, .ofNat 2147483647)], [], [], [], [], [], [])), [([], [(1, 1, .ofNat 0)], ([(.ofNat 0, .ofNat 0), (.ofNat 0, .ofNat 6)], [], [], [], [], [], []))], [(35, ([(3, 63, .ofNat 0), (1, 1, .ofNat 0), (1, 2, .ofNat 0), (3, 68, .ofNat 0), (1, 3, .ofNat 0), (1, 4, .ofNat 0), (3, 1000, .ofNat 0), (0, 0, .ofNat 0), (0, 0, .ofNat 0), (0, 0, .ofNat 0), (0, 0, .ofNat 0), (0, 0, .ofNat 0)], [], ([(.ofNat 0, .ofNat 0), (.ofNat 0, .ofNat 149), (.ofNat 0, .ofNat 9), (.ofNat 0, .ofNat 5), (.negSucc 2147483647, .ofNat 2147483647)], [], [], [154], [], [], [])), (.ofNat 7, [])), (44, ([(3, 63, .ofNat 0), (1, 1, .ofNat 0), (1, 2, .ofNat 0), (3, 68, .ofNat 0), (1, 3, .ofNat 0), (1, 4, .ofNat 0), (3, 1000, .ofNat 0), (1, 5, .ofNat 0), (1, 6, .ofNat 0), (1, 7, .ofNat 0), (0, 0, .ofNat 0), (0, 0, .ofNat 0)], [], ([(.ofNat 0, .ofNat 0), (.ofNat 0, .ofNat 149), (.ofNat 0, .ofNat 9), (.ofNat 0, .ofNat 5), (.negSucc 2147483647, .ofNat 2147483647), (.ofNat 0, .ofNat 6), (.ofNat 0, .ofNat 1), (.ofNat 0, .ofNat 6)], [(5, 7, .ofNat 0), (6, 7, .ofNat 0)], [], [154], [], [], [])), (.ofNat 6, [(.negSucc 0, 7)]))])
theorem ct_80t : cC80t.2.2.2.2.2.all (fun c => crk0 c.2.1 c.2.2 && cseg (cCT0, cCM0, 0, cC80t.2.2.1, cC80t.2.2.2.2.2, some c.2.2) cC80t 3000 c.1 c.2.1) = true := by decide +kernel
theorem hand_80 {X : aX} (hX : X 0 = some (8, zab)) (GFl : dGood X cC317) : dGood X cC80 := by
  intro M hM l h σ ρ rh I K L
  have hM0 : zmt[41]? = some zM41 := rfl
  cases (show zmt[41]? = some M from hM).symm.trans hM0
  have a0 := dL_r L (i := 0) (c := 63) (o := 0) rfl (by decide)
  have a3 := dL_r L (i := 3) (c := 68) (o := 0) rfl (by decide)
  obtain ⟨x1, a1, b1, b1'⟩ := hL_i L K.1 (i := 1) (p := 1) (o := 0) (lo := 0) (hi := 149) rfl rfl
  obtain ⟨x2, a2, b2, b2'⟩ := hL_i L K.1 (i := 2) (p := 2) (o := 0) (lo := 0) (hi := 9) rfl rfl
  obtain ⟨x3, a4, b3, b3'⟩ := hL_i L K.1 (i := 4) (p := 3) (o := 0) (lo := 0) (hi := 5) rfl rfl
  obtain ⟨x4, a5, b4, b4'⟩ := hL_i L K.1 (i := 5) (p := 4) (o := 0) (lo := (-2147483648)) (hi := 2147483647) rfl rfl
  obtain ⟨u0, l1, rfl, e1⟩ := hcons (show l.length = 12 from L.1)
  obtain ⟨u1, l2, rfl, e2⟩ := hcons e1
  obtain ⟨u2, l3, rfl, e3⟩ := hcons e2
  obtain ⟨u3, l4, rfl, e4⟩ := hcons e3
  obtain ⟨u4, l5, rfl, e5⟩ := hcons e4
  obtain ⟨u5, l6, rfl, e6⟩ := hcons e5
  obtain ⟨u6, l7, rfl, e7⟩ := hcons e6
  obtain ⟨u7, l8, rfl, e8⟩ := hcons e7
  obtain ⟨u8, l9, rfl, e9⟩ := hcons e8
  obtain ⟨u9, l10, rfl, e10⟩ := hcons e9
  obtain ⟨u10, l11, rfl, e11⟩ := hcons e10
  obtain ⟨u11, l12, rfl, e12⟩ := hcons e11
  cases hnil e12
  cases Option.some.inj a0
  cases Option.some.inj a1
  cases Option.some.inj a2
  cases Option.some.inj a3
  cases Option.some.inj a4
  cases Option.some.inj a5
  have tail : ∀ (σ1 : List Nat) (h1 : aH) (q : Nat), dI σ1 h1 → σ1[q]? = some 154 → dG cC80.2.2.1 σ h σ1 h1 → Wp X 6 zM41 (hQ cC80 σ h) 35 [some (.ref 63), some (.int x1), some (.int x2), some (.ref 68), some (.int x3), some (.int x4), some (.ref q), u7, u8, u9, u10, u11] [] h1 := by
    intro σ1 h1 q I1 hq G1
    have E := ctail_s (C := cC80t) hX (cCMt_ok cCM0_t) (fun j hj => absurd hj (by omega)) ct_80t (M := zM41) rfl (c := cC80t.2.2.2.2.2.headD (0, ([], [], ([], [], [], [], [], [], [])), (0, []))) List.mem_cons_self I1 (ρ := [0, x1.toInt, x2.toInt, x3.toInt, x4.toInt]) (rh := [q]) (l := [some (.ref 63), some (.int x1), some (.int x2), some (.ref 68), some (.int x3), some (.int x4), some (.ref q), u7, u8, u9, u10, u11]) (sv := []) (dK_r (kV_of rfl ⟨⟨by decide, by decide⟩, ⟨by show (0 : Int) ≤ _; omega, by show _ ≤ (149 : Int); omega⟩, ⟨by show (0 : Int) ≤ _; omega, by show _ ≤ (9 : Int); omega⟩, ⟨by show (0 : Int) ≤ _; omega, by show _ ≤ (5 : Int); omega⟩, iR _, trivial⟩) hq) (dL_R ⟨li_c (by decide), li_i rfl, li_i rfl, li_c (by decide), li_i rfl, li_i rfl, li_q rfl, li_0, li_0, li_0, li_0, li_0, trivial⟩) trivial
    exact wp_dEnd (C0 := cC80) E rfl rfl rfl G1
  refine hEnd ?_
  show Wp X 6 zM41 _ 0 [some (.ref 63), some (.int x1), some (.int x2), some (.ref 68), some (.int x3), some (.int x4), u6, u7, u8, u9, u10, u11] [] h
  obtain ⟨g, c65, hg⟩ := hI_rr I (r := 65) (a := 5) (n := 150) (rg := 154) (Or.inr ⟨rfl, rfl, rfl, rfl⟩)
  refine wp1 (fun n d => r_aloadn f41_0 rfl) ?_
  obtain ⟨fs1001, c1001⟩ := hI_o I (r := 63) (ci := 3) (by decide +kernel)
  have F1002 := hI_r I c1001 (f := 2) (q := 65) (by decide +kernel)
  refine w_get f41_1 c1001 F1002 ?_
  refine wp1 (fun n d => r_iloadn f41_4 rfl) ?_
  cases hgx : g x1.toInt.toNat with
  | some q =>
    refine wp1 (fun n d => r_aald5 (v := .ref q) f41_5 c65 (ix_ok (by omega) (by omega)) (by show arf (g x1.toInt.toNat) = _; rw [hgx]; rfl)) ?_
    refine wp1 (fun n d => r_astore (L' := [some (.ref 63), some (.int x1), some (.int x2), some (.ref 68), some (.int x3), some (.int x4), some (.ref q), u7, u8, u9, u10, u11]) f41_6 rfl rfl) ?_
    refine wp1 (fun n d => r_aload f41_8 rfl) ?_
    refine wp1 (fun n d => r_ifnonnull_r f41_10) ?_
    exact tail σ h q I (hg _ _ hgx) (dG_refl _ _ _)
  | none =>
    refine wp1 (fun n d => r_aald5 (v := .null) f41_5 c65 (ix_ok (by omega) (by omega)) (by show arf (g x1.toInt.toNat) = _; rw [hgx]; rfl)) ?_
    refine wp1 (fun n d => r_astoreN (L' := [some (.ref 63), some (.int x1), some (.int x2), some (.ref 68), some (.int x3), some (.int x4), some (.null), u7, u8, u9, u10, u11]) f41_6 rfl rfl) ?_
    refine wp1 (fun n d => r_aloadN f41_8 rfl) ?_
    refine wp1 (fun n d => r_ifnonnull_n f41_10) ?_
    refine w_bipush f41_13 (fun v13 hv13 => ?_)
    have n13 : v13.toNatClampNeg = 60 := by show v13.toInt.toNat = 60; omega
    refine wp1 (fun n d => r_newa (o := h.1.length) (h' := (h.1 ++ [.inl (0, 60, .inl (fun _ => 0))], h.2 + 60)) f41_15 ?_ rfl (by rw [n13]; rfl)) ?_
    · rintro (q | q)
      · have := Int32.lt_iff_toInt_lt.mp q
        rw [hv13] at this
        exact absurd this (by decide)
      · have := Int32.lt_iff_toInt_lt.mp q
        rw [hv13] at this
        exact absurd this (by decide)
    have I1 : dI (σ ++ [154]) (h.1 ++ [.inl (0, 60, .inl (fun _ => 0))], h.2 + 60) := dI_app I rfl (fun r hr => by cases List.mem_singleton.mp hr; decide) (fun i r e => by
      match i, e with
      | 0, e =>
        cases e
        exact ⟨_, _, rfl, rfl, ⟨_, rfl, fun j _ => by show (-2147483648 : Int) ≤ ((0 : Int32)).toInt ∧ ((0 : Int32)).toInt ≤ (2147483647 : Int); decide⟩⟩
      | i + 1, e => simp at e)
    have P1 := dPh_app I (cs := [.inl (0, 60, .inl (fun _ => 0))]) (u := h.2 + 60)
    have q1 : (σ ++ [154])[h.1.length]? = some 154 := by rw [List.getElem?_append_right (by rw [I.1.1]; exact Nat.le_refl _), I.1.1, Nat.sub_self]; rfl
    have N1 : dGn cC80.2.2.1 σ h (σ ++ [154]) (h.1 ++ [.inl (0, 60, .inl (fun _ => 0))], h.2 + 60) := dGn_app
    have c65b : ((h.1 ++ [.inl (0, 60, .inl (fun _ => 0))], h.2 + 60) : aH).1[65]? = some (.inl (5, 150, .inr (.inr (.inr (.inr g))))) := by
      show (h.1 ++ [.inl (0, 60, .inl (fun _ => 0))])[65]? = _
      rw [List.getElem?_append_left (List.getElem?_eq_some_iff.mp c65).1]; exact c65
    generalize (h.1 ++ [.inl (0, 60, .inl (fun _ => 0))], h.2 + 60) = h1 at *
    generalize h.1.length = q at *
    refine wp1 (fun n d => r_astore (L' := [some (.ref 63), some (.int x1), some (.int x2), some (.ref 68), some (.int x3), some (.int x4), some (.ref q), u7, u8, u9, u10, u11]) f41_17 rfl rfl) ?_
    refine wp1 (fun n d => r_aload f41_19 rfl) ?_
    refine w_sipush f41_21 (fun v21 hv21 => ?_)
    refine wp_goodr GFl (Y := zM332) (show zmt[332]? = some zM332 from rfl) I1 (ρ := [0, v21.toInt]) (rh := [q]) (dK_r (kV_of rfl ⟨⟨by decide, by decide⟩, ⟨by show (1000 : Int) ≤ _; omega, by show _ ≤ (1000 : Int); omega⟩, trivial⟩) q1) (dL_R (l := [some (.ref q), some (.int v21), none, none]) ⟨li_q rfl, li_i rfl, li_0, li_0, trivial⟩) (fun n d v h' e => r_stat (as := [.ref q, .int v21]) (r := []) f41_24 rfl (show zmt[332]? = some zM332 from rfl) rfl rfl rfl rfl rfl rfl e) (by decide) (fun v h2 σ2 I2 G2 P2 => ?_)
    cases rpost_0 P2 rfl
    show Wp _ _ _ _ 27 [some (.ref 63), some (.int x1), some (.int x2), some (.ref 68), some (.int x3), some (.int x4), some (.ref q), u7, u8, u9, u10, u11] [] _
    have q2 := G2.1 _ _ q1
    have c65c := dG_a I1.1 G2 c65b (by decide) rfl
    obtain ⟨fsz, c63⟩ := hI_o I2 (r := 63) (ci := 3) (by decide +kernel)
    have F2 := hI_r I2 c63 (f := 2) (q := 65) (by decide +kernel)
    refine wp1 (fun n d => r_aloadn f41_27 rfl) ?_
    refine w_get f41_28 c63 F2 ?_
    refine wp1 (fun n d => r_iloadn f41_31 rfl) ?_
    refine wp1 (fun n d => r_aload f41_32 rfl) ?_
    obtain ⟨cq, d1, d2⟩ := dH_cell I2.1 q2 (t := (cRT[154]?).getD (0, 0, 0, 0, 0, [])) rfl
    obtain ⟨gq, rfl, -⟩ := dC_1 d2 rfl
    obtain ⟨I3, N3, P3⟩ := hI_ref I2 (W := cC80.2.2.1) (r := 65) (a := 5) (n := 150) (k := x1.toInt.toNat) (q := q) (rg := 154) (Or.inr ⟨rfl, rfl, rfl, rfl⟩) (by decide) c65c q2 (by omega) hgx
    refine wp1 (fun n d => r_aast5 f41_34 c65c d1 (ix_ok (by omega) (by omega)) rfl) ?_
    refine tail σ2 _ q I3 q2 ⟨fun z r e => G2.1 z r (N1.1 z r e), (dGn_trans N1 (dGn_trans (dGn_of (dG_sub (by decide) G2)) N3)).2, ?_⟩
    have G23 := G2.2.2
    rw [if_neg (by decide)] at P3
    simp only [List.length_singleton] at P1
    show dPh (h2.1.set 65 (.inl (5, 150, .inr (.inr (.inr (.inr (va_up g x1.toInt.toNat (some q))))))), h2.2) ≤ dPh h
    have P3' : dPh (h2.1.set 65 (.inl (5, 150, .inr (.inr (.inr (.inr (va_up g x1.toInt.toNat (some q))))))), h2.2) + 61 = dPh h2 := P3
    omega
end
section
-- ===== by hand: season =====
theorem f1_0 : aF 0 zM1.2.2.2.2.2.2.2 = some (0, (.aload_n 0), 1, 0, 0) := by decide +kernel
theorem f1_1 : aF 1 zM1.2.2.2.2.2.2.2 = some (1, (.getfield 33), 3, 0, 0) := by decide +kernel
theorem f1_4 : aF 4 zM1.2.2.2.2.2.2.2 = some (4, (.getfield 45), 3, 6, 1) := by decide +kernel
theorem f1_7 : aF 7 zM1.2.2.2.2.2.2.2 = some (7, (.aload_n 0), 1, 0, 0) := by decide +kernel
theorem f1_8 : aF 8 zM1.2.2.2.2.2.2.2 = some (8, (.getfield 33), 3, 0, 0) := by decide +kernel
theorem f1_11 : aF 11 zM1.2.2.2.2.2.2.2 = some (11, (.getfield 51), 3, 6, 5) := by decide +kernel
theorem f1_14 : aF 14 zM1.2.2.2.2.2.2.2 = some (14, .iadd, 1, 0, 0) := by decide +kernel
theorem f1_15 : aF 15 zM1.2.2.2.2.2.2.2 = some (15, (.aload_n 0), 1, 0, 0) := by decide +kernel
theorem f1_16 : aF 16 zM1.2.2.2.2.2.2.2 = some (16, (.getfield 37), 3, 0, 1) := by decide +kernel
theorem f1_19 : aF 19 zM1.2.2.2.2.2.2.2 = some (19, (.getfield 54), 3, 2, 1) := by decide +kernel
theorem f1_22 : aF 22 zM1.2.2.2.2.2.2.2 = some (22, .iadd, 1, 0, 0) := by decide +kernel
theorem f1_23 : aF 23 zM1.2.2.2.2.2.2.2 = some (23, (.aload_n 0), 1, 0, 0) := by decide +kernel
theorem f1_24 : aF 24 zM1.2.2.2.2.2.2.2 = some (24, (.getfield 37), 3, 0, 1) := by decide +kernel
theorem f1_27 : aF 27 zM1.2.2.2.2.2.2.2 = some (27, (.getfield 57), 3, 2, 2) := by decide +kernel
theorem f1_30 : aF 30 zM1.2.2.2.2.2.2.2 = some (30, .iadd, 1, 0, 0) := by decide +kernel
theorem f1_31 : aF 31 zM1.2.2.2.2.2.2.2 = some (31, (.aload_n 0), 1, 0, 0) := by decide +kernel
theorem f1_32 : aF 32 zM1.2.2.2.2.2.2.2 = some (32, (.getfield 37), 3, 0, 1) := by decide +kernel
theorem f1_35 : aF 35 zM1.2.2.2.2.2.2.2 = some (35, (.getfield 60), 3, 2, 3) := by decide +kernel
theorem f1_38 : aF 38 zM1.2.2.2.2.2.2.2 = some (38, .iadd, 1, 0, 0) := by decide +kernel
theorem f1_39 : aF 39 zM1.2.2.2.2.2.2.2 = some (39, (.istore_n 3), 1, 0, 0) := by decide +kernel
theorem f1_40 : aF 40 zM1.2.2.2.2.2.2.2 = some (40, (.aload_n 0), 1, 0, 0) := by decide +kernel
theorem f1_41 : aF 41 zM1.2.2.2.2.2.2.2 = some (41, (.getfield 11), 3, 0, 3) := by decide +kernel
theorem f1_44 : aF 44 zM1.2.2.2.2.2.2.2 = some (44, (.iload_n 1), 1, 0, 0) := by decide +kernel
theorem f1_45 : aF 45 zM1.2.2.2.2.2.2.2 = some (45, .aaload, 1, 0, 0) := by decide +kernel
theorem f1_46 : aF 46 zM1.2.2.2.2.2.2.2 = some (46, (.astore 4), 2, 0, 0) := by decide +kernel
theorem f1_48 : aF 48 zM1.2.2.2.2.2.2.2 = some (48, (.aload 4), 2, 0, 0) := by decide +kernel
theorem f1_50 : aF 50 zM1.2.2.2.2.2.2.2 = some (50, (.ifnonnull 29), 3, 79, 0) := by decide +kernel
theorem f1_53 : aF 53 zM1.2.2.2.2.2.2.2 = some (53, (.new 9), 3, 8, 0) := by decide +kernel
theorem f1_56 : aF 56 zM1.2.2.2.2.2.2.2 = some (56, .dup, 1, 0, 0) := by decide +kernel
theorem f1_57 : aF 57 zM1.2.2.2.2.2.2.2 = some (57, (.aload_n 0), 1, 0, 0) := by decide +kernel
theorem f1_58 : aF 58 zM1.2.2.2.2.2.2.2 = some (58, (.getfield 33), 3, 0, 0) := by decide +kernel
theorem f1_61 : aF 61 zM1.2.2.2.2.2.2.2 = some (61, (.aload_n 0), 1, 0, 0) := by decide +kernel
theorem f1_62 : aF 62 zM1.2.2.2.2.2.2.2 = some (62, (.getfield 37), 3, 0, 1) := by decide +kernel
theorem f1_65 : aF 65 zM1.2.2.2.2.2.2.2 = some (65, (.iload_n 1), 1, 0, 0) := by decide +kernel
theorem f1_66 : aF 66 zM1.2.2.2.2.2.2.2 = some (66, (.invokespecial 63), 3, 96, 0) := by decide +kernel
theorem f1_69 : aF 69 zM1.2.2.2.2.2.2.2 = some (69, (.astore 4), 2, 0, 0) := by decide +kernel
theorem f1_71 : aF 71 zM1.2.2.2.2.2.2.2 = some (71, (.aload_n 0), 1, 0, 0) := by decide +kernel
theorem f1_72 : aF 72 zM1.2.2.2.2.2.2.2 = some (72, (.getfield 11), 3, 0, 3) := by decide +kernel
theorem f1_75 : aF 75 zM1.2.2.2.2.2.2.2 = some (75, (.iload_n 1), 1, 0, 0) := by decide +kernel
theorem f1_76 : aF 76 zM1.2.2.2.2.2.2.2 = some (76, (.aload 4), 2, 0, 0) := by decide +kernel
theorem f1_78 : aF 78 zM1.2.2.2.2.2.2.2 = some (78, .aastore, 1, 0, 0) := by decide +kernel
theorem f1_79 : aF 79 zM1.2.2.2.2.2.2.2 = some (79, (.aload 4), 2, 0, 0) := by decide +kernel
theorem f1_81 : aF 81 zM1.2.2.2.2.2.2.2 = some (81, (.getfield 66), 3, 8, 3) := by decide +kernel
theorem f1_84 : aF 84 zM1.2.2.2.2.2.2.2 = some (84, (.iload_n 2), 1, 0, 0) := by decide +kernel
theorem f1_85 : aF 85 zM1.2.2.2.2.2.2.2 = some (85, (.if_icmp .ne 12), 3, 97, 0) := by decide +kernel
theorem f1_88 : aF 88 zM1.2.2.2.2.2.2.2 = some (88, (.aload 4), 2, 0, 0) := by decide +kernel
theorem f1_90 : aF 90 zM1.2.2.2.2.2.2.2 = some (90, (.getfield 69), 3, 8, 4) := by decide +kernel
theorem f1_93 : aF 93 zM1.2.2.2.2.2.2.2 = some (93, (.iload_n 3), 1, 0, 0) := by decide +kernel
theorem f1_94 : aF 94 zM1.2.2.2.2.2.2.2 = some (94, (.if_icmp .eq 10), 3, 104, 0) := by decide +kernel
theorem f1_97 : aF 97 zM1.2.2.2.2.2.2.2 = some (97, (.aload 4), 2, 0, 0) := by decide +kernel
theorem f1_99 : aF 99 zM1.2.2.2.2.2.2.2 = some (99, (.iload_n 2), 1, 0, 0) := by decide +kernel
theorem f1_100 : aF 100 zM1.2.2.2.2.2.2.2 = some (100, (.iload_n 3), 1, 0, 0) := by decide +kernel
theorem f1_101 : aF 101 zM1.2.2.2.2.2.2.2 = some (101, (.invokevirtual 72), 3, 97, 0) := by decide +kernel
theorem f1_104 : aF 104 zM1.2.2.2.2.2.2.2 = some (104, (.aload 4), 2, 0, 0) := by decide +kernel
theorem f1_106 : aF 106 zM1.2.2.2.2.2.2.2 = some (106, .areturn, 1, 0, 0) := by decide +kernel
theorem f96_0 : aF 0 zM96.2.2.2.2.2.2.2 = some (0, (.aload_n 0), 1, 0, 0) := by decide +kernel
theorem f96_1 : aF 1 zM96.2.2.2.2.2.2.2 = some (1, (.invokespecial 3), 3, 1000, 0) := by decide +kernel
theorem f96_4 : aF 4 zM96.2.2.2.2.2.2.2 = some (4, (.aload_n 0), 1, 0, 0) := by decide +kernel
theorem f96_5 : aF 5 zM96.2.2.2.2.2.2.2 = some (5, (.iconst (-1)), 1, 0, 0) := by decide +kernel
theorem f96_6 : aF 6 zM96.2.2.2.2.2.2.2 = some (6, (.putfield 9), 3, 8, 3) := by decide +kernel
theorem f96_9 : aF 9 zM96.2.2.2.2.2.2.2 = some (9, (.aload_n 0), 1, 0, 0) := by decide +kernel
theorem f96_10 : aF 10 zM96.2.2.2.2.2.2.2 = some (10, (.iconst (-1)), 1, 0, 0) := by decide +kernel
theorem f96_11 : aF 11 zM96.2.2.2.2.2.2.2 = some (11, (.putfield 15), 3, 8, 4) := by decide +kernel
theorem f96_14 : aF 14 zM96.2.2.2.2.2.2.2 = some (14, (.aload_n 0), 1, 0, 0) := by decide +kernel
theorem f96_15 : aF 15 zM96.2.2.2.2.2.2.2 = some (15, (.sipush 300), 3, 0, 0) := by decide +kernel
theorem f96_18 : aF 18 zM96.2.2.2.2.2.2.2 = some (18, (.newarray .int), 2, 0, 0) := by decide +kernel
theorem f96_20 : aF 20 zM96.2.2.2.2.2.2.2 = some (20, (.putfield 18), 3, 8, 6) := by decide +kernel
theorem f96_23 : aF 23 zM96.2.2.2.2.2.2.2 = some (23, (.aload_n 0), 1, 0, 0) := by decide +kernel
theorem f96_24 : aF 24 zM96.2.2.2.2.2.2.2 = some (24, (.sipush 300), 3, 0, 0) := by decide +kernel
theorem f96_27 : aF 27 zM96.2.2.2.2.2.2.2 = some (27, (.newarray .int), 2, 0, 0) := by decide +kernel
theorem f96_29 : aF 29 zM96.2.2.2.2.2.2.2 = some (29, (.putfield 22), 3, 8, 7) := by decide +kernel
theorem f96_32 : aF 32 zM96.2.2.2.2.2.2.2 = some (32, (.aload_n 0), 1, 0, 0) := by decide +kernel
theorem f96_33 : aF 33 zM96.2.2.2.2.2.2.2 = some (33, (.sipush 300), 3, 0, 0) := by decide +kernel
theorem f96_36 : aF 36 zM96.2.2.2.2.2.2.2 = some (36, (.newarray .int), 2, 0, 0) := by decide +kernel
theorem f96_38 : aF 38 zM96.2.2.2.2.2.2.2 = some (38, (.putfield 25), 3, 8, 8) := by decide +kernel
theorem f96_41 : aF 41 zM96.2.2.2.2.2.2.2 = some (41, (.aload_n 0), 1, 0, 0) := by decide +kernel
theorem f96_42 : aF 42 zM96.2.2.2.2.2.2.2 = some (42, (.bipush 24), 2, 0, 0) := by decide +kernel
theorem f96_44 : aF 44 zM96.2.2.2.2.2.2.2 = some (44, (.newarray .int), 2, 0, 0) := by decide +kernel
theorem f96_46 : aF 46 zM96.2.2.2.2.2.2.2 = some (46, (.putfield 28), 3, 8, 9) := by decide +kernel
theorem f96_49 : aF 49 zM96.2.2.2.2.2.2.2 = some (49, (.aload_n 0), 1, 0, 0) := by decide +kernel
theorem f96_50 : aF 50 zM96.2.2.2.2.2.2.2 = some (50, (.sipush 150), 3, 0, 0) := by decide +kernel
theorem f96_53 : aF 53 zM96.2.2.2.2.2.2.2 = some (53, (.newarray .int), 2, 0, 0) := by decide +kernel
theorem f96_55 : aF 55 zM96.2.2.2.2.2.2.2 = some (55, (.putfield 31), 3, 8, 10) := by decide +kernel
theorem f96_58 : aF 58 zM96.2.2.2.2.2.2.2 = some (58, (.aload_n 0), 1, 0, 0) := by decide +kernel
theorem f96_59 : aF 59 zM96.2.2.2.2.2.2.2 = some (59, (.sipush 150), 3, 0, 0) := by decide +kernel
theorem f96_62 : aF 62 zM96.2.2.2.2.2.2.2 = some (62, (.newarray .int), 2, 0, 0) := by decide +kernel
theorem f96_64 : aF 64 zM96.2.2.2.2.2.2.2 = some (64, (.putfield 34), 3, 8, 11) := by decide +kernel
theorem f96_67 : aF 67 zM96.2.2.2.2.2.2.2 = some (67, (.aload_n 0), 1, 0, 0) := by decide +kernel
theorem f96_68 : aF 68 zM96.2.2.2.2.2.2.2 = some (68, (.sipush 150), 3, 0, 0) := by decide +kernel
theorem f96_71 : aF 71 zM96.2.2.2.2.2.2.2 = some (71, (.newarray .int), 2, 0, 0) := by decide +kernel
theorem f96_73 : aF 73 zM96.2.2.2.2.2.2.2 = some (73, (.putfield 37), 3, 8, 12) := by decide +kernel
theorem f96_76 : aF 76 zM96.2.2.2.2.2.2.2 = some (76, (.aload_n 0), 1, 0, 0) := by decide +kernel
theorem f96_77 : aF 77 zM96.2.2.2.2.2.2.2 = some (77, (.aload_n 1), 1, 0, 0) := by decide +kernel
theorem f96_78 : aF 78 zM96.2.2.2.2.2.2.2 = some (78, (.putfield 40), 3, 8, 0) := by decide +kernel
theorem f96_81 : aF 81 zM96.2.2.2.2.2.2.2 = some (81, (.aload_n 0), 1, 0, 0) := by decide +kernel
theorem f96_82 : aF 82 zM96.2.2.2.2.2.2.2 = some (82, (.aload_n 2), 1, 0, 0) := by decide +kernel
theorem f96_83 : aF 83 zM96.2.2.2.2.2.2.2 = some (83, (.putfield 44), 3, 8, 1) := by decide +kernel
theorem f96_86 : aF 86 zM96.2.2.2.2.2.2.2 = some (86, (.aload_n 0), 1, 0, 0) := by decide +kernel
theorem f96_87 : aF 87 zM96.2.2.2.2.2.2.2 = some (87, (.iload_n 3), 1, 0, 0) := by decide +kernel
theorem f96_88 : aF 88 zM96.2.2.2.2.2.2.2 = some (88, (.putfield 48), 3, 8, 2) := by decide +kernel
theorem f96_91 : aF 91 zM96.2.2.2.2.2.2.2 = some (91, .return_, 1, 0, 0) := by decide +kernel
def cC340 : cC := (332, 0, [(148, 0)], ([(3, 1000, .ofNat 0), (1, 1, .ofNat 0), (0, 0, .ofNat 0), (0, 0, .ofNat 0)], [], ([(.ofNat 0, .ofNat 0), (.ofNat 0, .ofNat 1)], [], [], [148], [], [], [])), [([], [], ([(.ofNat 0, .ofNat 0)], [], [], [], [], [], []))], [(5, ([(3, 1000, .ofNat 0), (1, 1, .ofNat 0), (1, 2, .ofNat 0), (1, 0, .ofNat 300)], [], ([(.ofNat 0, .ofNat 0), (.ofNat 0, .ofNat 1), (.ofNat 0, .ofNat 300)], [], [], [148], [], [], [])), (.ofNat 300, [(.negSucc 0, 2)]))])
def cC341 : cC := (103, 1, [], ([(3, 1000, .ofNat 0), (1, 1, .ofNat 0), (0, 0, .ofNat 0), (0, 0, .ofNat 0), (0, 0, .ofNat 0), (0, 0, .ofNat 0)], [], ([(.ofNat 0, .ofNat 0), (.ofNat 0, .ofNat 23)], [], [], [146], [], [], [])), [([], [(1, 1, .ofNat 0)], ([(.ofNat 0, .ofNat 0), (.negSucc 2147483647, .ofNat 2147483647)], [], [], [], [], [], []))], [(10, ([(3, 1000, .ofNat 0), (1, 1, .ofNat 0), (1, 2, .ofNat 0), (1, 3, .ofNat 0), (1, 4, .ofNat 0), (1, 5, .ofNat 0)], [], ([(.ofNat 0, .ofNat 0), (.ofNat 0, .ofNat 23), (.negSucc 2147483647, .ofNat 2147483647), (.negSucc 2147483647, .ofNat 2147483647), (.negSucc 2147483647, .ofNat 2147483647), (.ofNat 0, .ofNat 300)], [], [], [146], [], [], [])), (.ofNat 300, [(.negSucc 0, 5)]))])
def cC342 : cC := (33, 0, [], ([(3, 16, .ofNat 0), (1, 1, .ofNat 0), (1, 2, .ofNat 0), (1, 3, .ofNat 0), (0, 0, .ofNat 0), (0, 0, .ofNat 0), (0, 0, .ofNat 0)], [], ([(.ofNat 0, .ofNat 0), (.ofNat 0, .ofNat 23), (.ofNat 0, .ofNat 9), (.negSucc 2147483647, .ofNat 2147483647)], [], [], [], [], [], [])), [([], [(1, 1, .ofNat 0)], ([(.ofNat 0, .ofNat 0), (.negSucc 2147483647, .ofNat 2147483647)], [], [], [], [], [], []))], [(6, ([(3, 16, .ofNat 0), (1, 1, .ofNat 0), (1, 2, .ofNat 0), (1, 3, .ofNat 0), (1, 4, .ofNat 0), (1, 5, .ofNat 0), (0, 0, .ofNat 0)], [], ([(.ofNat 0, .ofNat 0), (.ofNat 0, .ofNat 23), (.ofNat 0, .ofNat 9), (.negSucc 2147483647, .ofNat 2147483647), (.negSucc 2147483647, .ofNat 2147483647), (.ofNat 0, .ofNat 40)], [], [], [], [], [], [])), (.ofNat 40, [(.negSucc 0, 5)]))])
def cC343 : cC := (104, 1, [(148, 0)], ([(3, 1000, .ofNat 0), (1, 1, .ofNat 0), (0, 0, .ofNat 0), (0, 0, .ofNat 0), (0, 0, .ofNat 0), (0, 0, .ofNat 0)], [], ([(.ofNat 0, .ofNat 0), (.ofNat 0, .ofNat 23)], [], [], [146], [], [], [])), [([], [], ([(.ofNat 0, .ofNat 0)], [], [], [], [], [], []))], [(29, ([(3, 1000, .ofNat 0), (1, 1, .ofNat 0), (1, 2, .ofNat 0), (1, 3, .ofNat 0), (1, 4, .ofNat 0), (0, 0, .ofNat 0)], [], ([(.ofNat 0, .ofNat 0), (.ofNat 0, .ofNat 23), (.negSucc 2147483647, .ofNat 2147483647), (.negSucc 2147483647, .ofNat 2147483647), (.ofNat 0, .ofNat 300), (.negSucc 2147483647, .ofNat 2147483647), (.ofNat 0, .ofNat 9)], [], [], [146, 150], [(1000, 3, 1, 5, .ofNat 0), (1000, 2, 1, 6, .ofNat 0), (1000, 9, 3, 1001, .ofNat 0)], [], [])), (.ofNat 300, [(.negSucc 0, 4)]))])
def cC344 : cC := (332, 0, [(151, 0)], ([(3, 1000, .ofNat 0), (1, 1, .ofNat 0), (0, 0, .ofNat 0), (0, 0, .ofNat 0)], [], ([(.ofNat 0, .ofNat 0), (.ofNat 0, .ofNat 1)], [], [], [151], [], [], [])), [([], [], ([(.ofNat 0, .ofNat 0)], [], [], [], [], [], []))], [(5, ([(3, 1000, .ofNat 0), (1, 1, .ofNat 0), (1, 2, .ofNat 0), (1, 0, .ofNat 150)], [], ([(.ofNat 0, .ofNat 0), (.ofNat 0, .ofNat 1), (.ofNat 0, .ofNat 150)], [], [], [151], [], [], [])), (.ofNat 150, [(.negSucc 0, 2)]))])
def cC345 : cC := (332, 0, [(152, 0)], ([(3, 1000, .ofNat 0), (1, 1, .ofNat 0), (0, 0, .ofNat 0), (0, 0, .ofNat 0)], [], ([(.ofNat 0, .ofNat 0), (.ofNat 0, .ofNat 1)], [], [], [152], [], [], [])), [([], [], ([(.ofNat 0, .ofNat 0)], [], [], [], [], [], []))], [(5, ([(3, 1000, .ofNat 0), (1, 1, .ofNat 0), (1, 2, .ofNat 0), (1, 0, .ofNat 150)], [], ([(.ofNat 0, .ofNat 0), (.ofNat 0, .ofNat 1), (.ofNat 0, .ofNat 150)], [], [], [152], [], [], [])), (.ofNat 150, [(.negSucc 0, 2)]))])
def cC346 : cC := (332, 0, [(153, 0)], ([(3, 1000, .ofNat 0), (1, 1, .ofNat 0), (0, 0, .ofNat 0), (0, 0, .ofNat 0)], [], ([(.ofNat 0, .ofNat 0), (.negSucc 0, .ofNat 1)], [], [], [153], [], [], [])), [([], [], ([(.ofNat 0, .ofNat 0)], [], [], [], [], [], []))], [(5, ([(3, 1000, .ofNat 0), (1, 1, .ofNat 0), (1, 2, .ofNat 0), (1, 0, .ofNat 150)], [], ([(.ofNat 0, .ofNat 0), (.negSucc 0, .ofNat 1), (.ofNat 0, .ofNat 150)], [], [], [153], [], [], [])), (.ofNat 150, [(.negSucc 0, 2)]))])
def cC347 : cC := (35, 0, [], ([(3, 16, .ofNat 0), (1, 1, .ofNat 0), (1, 2, .ofNat 0), (1, 3, .ofNat 0), (0, 0, .ofNat 0), (0, 0, .ofNat 0)], [], ([(.ofNat 0, .ofNat 0), (.ofNat 0, .ofNat 299), (.ofNat 0, .ofNat 9), (.negSucc 2147483647, .ofNat 2147483647)], [], [], [], [], [], [])), [([], [(1, 1, .ofNat 0)], ([(.ofNat 0, .ofNat 0), (.negSucc 2147483647, .ofNat 2147483647)], [], [], [], [], [], []))], [(8, ([(3, 16, .ofNat 0), (1, 1, .ofNat 0), (1, 2, .ofNat 0), (1, 3, .ofNat 0), (1, 4, .negSucc 0), (0, 0, .ofNat 0)], [], ([(.ofNat 0, .ofNat 0), (.ofNat 0, .ofNat 299), (.ofNat 0, .ofNat 9), (.negSucc 2147483647, .ofNat 2147483647), (.ofNat 0, .ofNat 200), (.ofNat 0, .ofNat 200)], [], [], [], [(16, 3, 1, 5, .ofNat 0)], [], [])), (.ofNat 0, [(.ofNat 1, 4)]))])
def cC348 : cC := (105, 1, [(149, 0), (151, 0), (152, 0), (153, 0)], ([(3, 1000, .ofNat 0), (0, 0, .ofNat 0), (0, 0, .ofNat 0)], [], ([(.ofNat 0, .ofNat 0)], [], [], [146], [], [], [])), [([], [], ([(.ofNat 0, .ofNat 0)], [], [], [], [], [], []))], [(26, ([(3, 1000, .ofNat 0), (1, 1, .ofNat 0), (0, 0, .ofNat 0)], [], ([(.ofNat 0, .ofNat 0), (.ofNat 0, .ofNat 300)], [], [], [146, 153, 152, 151], [(1000, 12, 3, 1001, .ofNat 0), (1000, 11, 3, 1002, .ofNat 0), (1000, 10, 3, 1003, .ofNat 0)], [], [])), (.ofNat 300, [(.negSucc 0, 1)]))])
def cC349 : cC := (97, 2, [(146, 3), (146, 4), (146, 5), (147, 0), (148, 0), (149, 0), (150, 0), (151, 0), (152, 0), (153, 0)], ([(3, 1000, .ofNat 0), (1, 1, .ofNat 0), (1, 2, .ofNat 0), (0, 0, .ofNat 0)], [], ([(.ofNat 0, .ofNat 0), (.ofNat 0, .ofNat 3649), (.negSucc 2147483647, .ofNat 2147483647)], [], [], [146], [], [], [])), [([], [], ([(.ofNat 0, .ofNat 0)], [], [], [], [], [], []))], [(17, ([(3, 1000, .ofNat 0), (1, 1, .ofNat 0), (1, 2, .ofNat 0), (1, 3, .ofNat 0)], [], ([(.ofNat 0, .ofNat 0), (.ofNat 0, .ofNat 3649), (.negSucc 2147483647, .ofNat 2147483647), (.ofNat 0, .ofNat 300), (.ofNat 0, .ofNat 300)], [(4, 3, .ofNat 0)], [], [146], [(1000, 5, 1, 4, .ofNat 0), (1000, 4, 1, 2, .ofNat 0), (1000, 3, 1, 1, .ofNat 0)], [], [])), (.ofNat 325, [(.negSucc 0, 3)])), (91, ([(3, 1000, .ofNat 0), (1, 1, .ofNat 0), (1, 2, .ofNat 0), (1, 3, .ofNat 0)], [], ([(.ofNat 0, .ofNat 0), (.ofNat 0, .ofNat 3649), (.negSucc 2147483647, .ofNat 2147483647), (.ofNat 0, .ofNat 24), (.ofNat 0, .ofNat 300), (.ofNat 0, .ofNat 300)], [], [], [146, 148], [(1000, 7, 3, 1001, .ofNat 0), (16, 1, 1, 4, .ofNat 0), (1000, 5, 1, 5, .ofNat 0), (1000, 4, 1, 2, .ofNat 0), (1000, 3, 1, 1, .ofNat 0)], [], [])), (.ofNat 24, [(.negSucc 0, 3)]))])
def cCTs : List cC := [cC340, cC341, cC342, cC343, cC344, cC345, cC346, cC347, cC348, cC349]
def cCMs : List (List Nat) := ((((((((List.replicate 333 []).set 33 [2]).set 35 [7]).set 97 [9]).set 103 [1]).set 104 [3]).set 105 [8]).set 332 [0, 4, 5, 6])
theorem cs_0 : cchk cCTs cCMs 3000 0 = true := by decide +kernel
theorem cs_1 : cchk cCTs cCMs 3000 1 = true := by decide +kernel
theorem cs_2 : cchk cCTs cCMs 3000 2 = true := by decide +kernel
theorem cs_3 : cchk cCTs cCMs 3000 3 = true := by decide +kernel
theorem cs_4 : cchk cCTs cCMs 3000 4 = true := by decide +kernel
theorem cs_5 : cchk cCTs cCMs 3000 5 = true := by decide +kernel
theorem cs_6 : cchk cCTs cCMs 3000 6 = true := by decide +kernel
theorem cs_7 : cchk cCTs cCMs 3000 7 = true := by decide +kernel
theorem cs_8 : cchk cCTs cCMs 3000 8 = true := by decide +kernel
theorem cs_9 : cchk cCTs cCMs 3000 9 = true := by decide +kernel
theorem cCMs_t : cCMt cCTs cCMs = true := by decide +kernel
theorem hT_s {X : aX} (hX : X 0 = some (8, zab)) : hT X cCTs 10 := by
  have g0 : hT X cCTs 0 := fun j hj => absurd hj (by omega)
  have g1 := tstep hX cCMs_t g0 cs_0
  have g2 := tstep hX cCMs_t g1 cs_1
  have g3 := tstep hX cCMs_t g2 cs_2
  have g4 := tstep hX cCMs_t g3 cs_3
  have g5 := tstep hX cCMs_t g4 cs_4
  have g6 := tstep hX cCMs_t g5 cs_5
  have g7 := tstep hX cCMs_t g6 cs_6
  have g8 := tstep hX cCMs_t g7 cs_7
  have g9 := tstep hX cCMs_t g8 cs_8
  have g10 := tstep hX cCMs_t g9 cs_9
  exact g10
section WE
variable {X : aX} {D : Nat} {M : aM} {Q : Option Value → aH → Prop} {pc len a b : Nat} {L : aL} {r : List Value}
theorem w_putE {l rest : List aC} {u ix : Nat} {fs : List Value} {v : Value} (hf : aF pc M.2.2.2.2.2.2.2 = some (pc, (.putfield ix), len, a, b)) (hk : ((!((zT a b).2.2.2) || (Nat.beq M.2.2.2.2.2.2.1 2 && Nat.beq M.1 a)) && aok (zY a b) v && Nat.blt b fs.length) = true) (kk : Wp X D M Q (pc + 3) L r (l ++ .inr (a, fs.set b v) :: rest, u)) : Wp X D M Q pc L (v :: .ref l.length :: r) (l ++ .inr (a, fs) :: rest, u) :=
  wp1 (fun n d => r_put hf (fs := fs) (by rw [List.getElem?_append_right (Nat.le_refl _), Nat.sub_self]; rfl) hk (by
    show ((l ++ .inr (a, fs) :: rest).set l.length _, u) = _
    rw [List.set_append_right _ _ (Nat.le_refl _), Nat.sub_self]
    rfl)) kk
theorem w_newaE {l s s' : List aC} {u k o : Nat} {t : ArrayType} {x : Int32} (hf : aF pc M.2.2.2.2.2.2.2 = some (pc, (.newarray t), len, 0, b)) (hx : x.toInt = k) (h1 : k ≤ 100000) (hs : s' = s ++ [.inl (0, k, .inl (fun _ => 0))]) (ho : o = s.length) (kk : Wp X D M Q (pc + 2) L (.ref (l.length + o) :: r) (l ++ s', u + k)) : Wp X D M Q pc L (.int x :: r) (l ++ s, u) := by
  subst hs
  subst ho
  have e : x.toNatClampNeg = k := by show x.toInt.toNat = k; omega
  refine wp1 (fun n d => r_newa (o := l.length + s.length) hf ?_ (by show (l ++ s).length = _; rw [List.length_append]) (by show ((l ++ s) ++ [.inl (0, x.toNatClampNeg, azero 0)], u + x.toNatClampNeg) = _; rw [e, List.append_assoc]; rfl)) kk
  rintro (q | q)
  · have := Int32.lt_iff_toInt_lt.mp q
    rw [hx, show (0 : Int32).toInt = 0 by decide] at this
    omega
  · have := Int32.lt_iff_toInt_lt.mp q
    rw [hx, show (100000 : Int32).toInt = 100000 by decide] at this
    omega
end WE
theorem sea_init {X : aX} {l : List aC} {u : Nat} {yr : Int32} : Wp X 2 zM96 (fun v h' => v = none ∧ ∃ y3 y4 : Int32, h' = (l ++ [.inr (8, [.ref 1, .ref 16, .int yr, .int y3, .int y4, .int 0, .ref (l.length + 1), .ref (l.length + 2), .ref (l.length + 3), .ref (l.length + 4), .ref (l.length + 5), .ref (l.length + 6), .ref (l.length + 7)]), .inl (0, 300, .inl (fun _ => 0)), .inl (0, 300, .inl (fun _ => 0)), .inl (0, 300, .inl (fun _ => 0)), .inl (0, 24, .inl (fun _ => 0)), .inl (0, 150, .inl (fun _ => 0)), .inl (0, 150, .inl (fun _ => 0)), .inl (0, 150, .inl (fun _ => 0))], u + 1374)) 0 [some (.ref l.length), some (.ref 1), some (.ref 16), some (.int yr)] [] (l ++ [.inr (8, [.null, .null, .int 0, .int 0, .int 0, .int 0, .null, .null, .null, .null, .null, .null, .null])], u) := by
  show Wp X 2 zM96 _ 0 [some (.ref l.length), some (.ref 1), some (.ref 16), some (.int yr)] [] (l ++ .inr (8, [.null, .null, .int 0, .int 0, .int 0, .int 0, .null, .null, .null, .null, .null, .null, .null]) :: [], u)
  refine wp1 (fun n d => r_aloadn f96_0 rfl) ?_
  refine wp1 (fun n d => r_obj f96_1 rfl rfl) ?_
  refine wp1 (fun n d => r_aloadn f96_4 rfl) ?_
  refine w_iconst f96_5 (fun v5 hv5 => ?_)
  refine w_putE f96_6 rfl ?_
  show Wp X 2 zM96 _ 9 [some (.ref l.length), some (.ref 1), some (.ref 16), some (.int yr)] [] (l ++ .inr (8, [.null, .null, .int 0, .int v5, .int 0, .int 0, .null, .null, .null, .null, .null, .null, .null]) :: [], u)
  refine wp1 (fun n d => r_aloadn f96_9 rfl) ?_
  refine w_iconst f96_10 (fun v10 hv10 => ?_)
  refine w_putE f96_11 rfl ?_
  show Wp X 2 zM96 _ 14 [some (.ref l.length), some (.ref 1), some (.ref 16), some (.int yr)] [] (l ++ .inr (8, [.null, .null, .int 0, .int v5, .int v10, .int 0, .null, .null, .null, .null, .null, .null, .null]) :: [], u)
  refine wp1 (fun n d => r_aloadn f96_14 rfl) ?_
  refine w_sipush f96_15 (fun v15 hv15 => ?_)
  refine w_newaE (l := l) (s := .inr (8, [.null, .null, .int 0, .int v5, .int v10, .int 0, .null, .null, .null, .null, .null, .null, .null]) :: []) (s' := .inr (8, [.null, .null, .int 0, .int v5, .int v10, .int 0, .null, .null, .null, .null, .null, .null, .null]) :: [.inl (0, 300, .inl (fun _ => 0))]) (k := 300) (o := 1) f96_18 hv15 (by decide) rfl rfl ?_
  refine w_putE f96_20 rfl ?_
  show Wp X 2 zM96 _ 23 [some (.ref l.length), some (.ref 1), some (.ref 16), some (.int yr)] [] (l ++ .inr (8, [.null, .null, .int 0, .int v5, .int v10, .int 0, .ref (l.length + 1), .null, .null, .null, .null, .null, .null]) :: [.inl (0, 300, .inl (fun _ => 0))], u + 300)
  refine wp1 (fun n d => r_aloadn f96_23 rfl) ?_
  refine w_sipush f96_24 (fun v24 hv24 => ?_)
  refine w_newaE (l := l) (s := .inr (8, [.null, .null, .int 0, .int v5, .int v10, .int 0, .ref (l.length + 1), .null, .null, .null, .null, .null, .null]) :: [.inl (0, 300, .inl (fun _ => 0))]) (s' := .inr (8, [.null, .null, .int 0, .int v5, .int v10, .int 0, .ref (l.length + 1), .null, .null, .null, .null, .null, .null]) :: [.inl (0, 300, .inl (fun _ => 0)), .inl (0, 300, .inl (fun _ => 0))]) (k := 300) (o := 2) f96_27 hv24 (by decide) rfl rfl ?_
  refine w_putE f96_29 rfl ?_
  show Wp X 2 zM96 _ 32 [some (.ref l.length), some (.ref 1), some (.ref 16), some (.int yr)] [] (l ++ .inr (8, [.null, .null, .int 0, .int v5, .int v10, .int 0, .ref (l.length + 1), .ref (l.length + 2), .null, .null, .null, .null, .null]) :: [.inl (0, 300, .inl (fun _ => 0)), .inl (0, 300, .inl (fun _ => 0))], (u + 300) + 300)
  refine wp1 (fun n d => r_aloadn f96_32 rfl) ?_
  refine w_sipush f96_33 (fun v33 hv33 => ?_)
  refine w_newaE (l := l) (s := .inr (8, [.null, .null, .int 0, .int v5, .int v10, .int 0, .ref (l.length + 1), .ref (l.length + 2), .null, .null, .null, .null, .null]) :: [.inl (0, 300, .inl (fun _ => 0)), .inl (0, 300, .inl (fun _ => 0))]) (s' := .inr (8, [.null, .null, .int 0, .int v5, .int v10, .int 0, .ref (l.length + 1), .ref (l.length + 2), .null, .null, .null, .null, .null]) :: [.inl (0, 300, .inl (fun _ => 0)), .inl (0, 300, .inl (fun _ => 0)), .inl (0, 300, .inl (fun _ => 0))]) (k := 300) (o := 3) f96_36 hv33 (by decide) rfl rfl ?_
  refine w_putE f96_38 rfl ?_
  show Wp X 2 zM96 _ 41 [some (.ref l.length), some (.ref 1), some (.ref 16), some (.int yr)] [] (l ++ .inr (8, [.null, .null, .int 0, .int v5, .int v10, .int 0, .ref (l.length + 1), .ref (l.length + 2), .ref (l.length + 3), .null, .null, .null, .null]) :: [.inl (0, 300, .inl (fun _ => 0)), .inl (0, 300, .inl (fun _ => 0)), .inl (0, 300, .inl (fun _ => 0))], ((u + 300) + 300) + 300)
  refine wp1 (fun n d => r_aloadn f96_41 rfl) ?_
  refine w_bipush f96_42 (fun v42 hv42 => ?_)
  refine w_newaE (l := l) (s := .inr (8, [.null, .null, .int 0, .int v5, .int v10, .int 0, .ref (l.length + 1), .ref (l.length + 2), .ref (l.length + 3), .null, .null, .null, .null]) :: [.inl (0, 300, .inl (fun _ => 0)), .inl (0, 300, .inl (fun _ => 0)), .inl (0, 300, .inl (fun _ => 0))]) (s' := .inr (8, [.null, .null, .int 0, .int v5, .int v10, .int 0, .ref (l.length + 1), .ref (l.length + 2), .ref (l.length + 3), .null, .null, .null, .null]) :: [.inl (0, 300, .inl (fun _ => 0)), .inl (0, 300, .inl (fun _ => 0)), .inl (0, 300, .inl (fun _ => 0)), .inl (0, 24, .inl (fun _ => 0))]) (k := 24) (o := 4) f96_44 hv42 (by decide) rfl rfl ?_
  refine w_putE f96_46 rfl ?_
  show Wp X 2 zM96 _ 49 [some (.ref l.length), some (.ref 1), some (.ref 16), some (.int yr)] [] (l ++ .inr (8, [.null, .null, .int 0, .int v5, .int v10, .int 0, .ref (l.length + 1), .ref (l.length + 2), .ref (l.length + 3), .ref (l.length + 4), .null, .null, .null]) :: [.inl (0, 300, .inl (fun _ => 0)), .inl (0, 300, .inl (fun _ => 0)), .inl (0, 300, .inl (fun _ => 0)), .inl (0, 24, .inl (fun _ => 0))], (((u + 300) + 300) + 300) + 24)
  refine wp1 (fun n d => r_aloadn f96_49 rfl) ?_
  refine w_sipush f96_50 (fun v50 hv50 => ?_)
  refine w_newaE (l := l) (s := .inr (8, [.null, .null, .int 0, .int v5, .int v10, .int 0, .ref (l.length + 1), .ref (l.length + 2), .ref (l.length + 3), .ref (l.length + 4), .null, .null, .null]) :: [.inl (0, 300, .inl (fun _ => 0)), .inl (0, 300, .inl (fun _ => 0)), .inl (0, 300, .inl (fun _ => 0)), .inl (0, 24, .inl (fun _ => 0))]) (s' := .inr (8, [.null, .null, .int 0, .int v5, .int v10, .int 0, .ref (l.length + 1), .ref (l.length + 2), .ref (l.length + 3), .ref (l.length + 4), .null, .null, .null]) :: [.inl (0, 300, .inl (fun _ => 0)), .inl (0, 300, .inl (fun _ => 0)), .inl (0, 300, .inl (fun _ => 0)), .inl (0, 24, .inl (fun _ => 0)), .inl (0, 150, .inl (fun _ => 0))]) (k := 150) (o := 5) f96_53 hv50 (by decide) rfl rfl ?_
  refine w_putE f96_55 rfl ?_
  show Wp X 2 zM96 _ 58 [some (.ref l.length), some (.ref 1), some (.ref 16), some (.int yr)] [] (l ++ .inr (8, [.null, .null, .int 0, .int v5, .int v10, .int 0, .ref (l.length + 1), .ref (l.length + 2), .ref (l.length + 3), .ref (l.length + 4), .ref (l.length + 5), .null, .null]) :: [.inl (0, 300, .inl (fun _ => 0)), .inl (0, 300, .inl (fun _ => 0)), .inl (0, 300, .inl (fun _ => 0)), .inl (0, 24, .inl (fun _ => 0)), .inl (0, 150, .inl (fun _ => 0))], ((((u + 300) + 300) + 300) + 24) + 150)
  refine wp1 (fun n d => r_aloadn f96_58 rfl) ?_
  refine w_sipush f96_59 (fun v59 hv59 => ?_)
  refine w_newaE (l := l) (s := .inr (8, [.null, .null, .int 0, .int v5, .int v10, .int 0, .ref (l.length + 1), .ref (l.length + 2), .ref (l.length + 3), .ref (l.length + 4), .ref (l.length + 5), .null, .null]) :: [.inl (0, 300, .inl (fun _ => 0)), .inl (0, 300, .inl (fun _ => 0)), .inl (0, 300, .inl (fun _ => 0)), .inl (0, 24, .inl (fun _ => 0)), .inl (0, 150, .inl (fun _ => 0))]) (s' := .inr (8, [.null, .null, .int 0, .int v5, .int v10, .int 0, .ref (l.length + 1), .ref (l.length + 2), .ref (l.length + 3), .ref (l.length + 4), .ref (l.length + 5), .null, .null]) :: [.inl (0, 300, .inl (fun _ => 0)), .inl (0, 300, .inl (fun _ => 0)), .inl (0, 300, .inl (fun _ => 0)), .inl (0, 24, .inl (fun _ => 0)), .inl (0, 150, .inl (fun _ => 0)), .inl (0, 150, .inl (fun _ => 0))]) (k := 150) (o := 6) f96_62 hv59 (by decide) rfl rfl ?_
  refine w_putE f96_64 rfl ?_
  show Wp X 2 zM96 _ 67 [some (.ref l.length), some (.ref 1), some (.ref 16), some (.int yr)] [] (l ++ .inr (8, [.null, .null, .int 0, .int v5, .int v10, .int 0, .ref (l.length + 1), .ref (l.length + 2), .ref (l.length + 3), .ref (l.length + 4), .ref (l.length + 5), .ref (l.length + 6), .null]) :: [.inl (0, 300, .inl (fun _ => 0)), .inl (0, 300, .inl (fun _ => 0)), .inl (0, 300, .inl (fun _ => 0)), .inl (0, 24, .inl (fun _ => 0)), .inl (0, 150, .inl (fun _ => 0)), .inl (0, 150, .inl (fun _ => 0))], (((((u + 300) + 300) + 300) + 24) + 150) + 150)
  refine wp1 (fun n d => r_aloadn f96_67 rfl) ?_
  refine w_sipush f96_68 (fun v68 hv68 => ?_)
  refine w_newaE (l := l) (s := .inr (8, [.null, .null, .int 0, .int v5, .int v10, .int 0, .ref (l.length + 1), .ref (l.length + 2), .ref (l.length + 3), .ref (l.length + 4), .ref (l.length + 5), .ref (l.length + 6), .null]) :: [.inl (0, 300, .inl (fun _ => 0)), .inl (0, 300, .inl (fun _ => 0)), .inl (0, 300, .inl (fun _ => 0)), .inl (0, 24, .inl (fun _ => 0)), .inl (0, 150, .inl (fun _ => 0)), .inl (0, 150, .inl (fun _ => 0))]) (s' := .inr (8, [.null, .null, .int 0, .int v5, .int v10, .int 0, .ref (l.length + 1), .ref (l.length + 2), .ref (l.length + 3), .ref (l.length + 4), .ref (l.length + 5), .ref (l.length + 6), .null]) :: [.inl (0, 300, .inl (fun _ => 0)), .inl (0, 300, .inl (fun _ => 0)), .inl (0, 300, .inl (fun _ => 0)), .inl (0, 24, .inl (fun _ => 0)), .inl (0, 150, .inl (fun _ => 0)), .inl (0, 150, .inl (fun _ => 0)), .inl (0, 150, .inl (fun _ => 0))]) (k := 150) (o := 7) f96_71 hv68 (by decide) rfl rfl ?_
  refine w_putE f96_73 rfl ?_
  show Wp X 2 zM96 _ 76 [some (.ref l.length), some (.ref 1), some (.ref 16), some (.int yr)] [] (l ++ .inr (8, [.null, .null, .int 0, .int v5, .int v10, .int 0, .ref (l.length + 1), .ref (l.length + 2), .ref (l.length + 3), .ref (l.length + 4), .ref (l.length + 5), .ref (l.length + 6), .ref (l.length + 7)]) :: [.inl (0, 300, .inl (fun _ => 0)), .inl (0, 300, .inl (fun _ => 0)), .inl (0, 300, .inl (fun _ => 0)), .inl (0, 24, .inl (fun _ => 0)), .inl (0, 150, .inl (fun _ => 0)), .inl (0, 150, .inl (fun _ => 0)), .inl (0, 150, .inl (fun _ => 0))], ((((((u + 300) + 300) + 300) + 24) + 150) + 150) + 150)
  refine wp1 (fun n d => r_aloadn f96_76 rfl) ?_
  refine wp1 (fun n d => r_aloadn f96_77 rfl) ?_
  refine w_putE f96_78 rfl ?_
  show Wp X 2 zM96 _ 81 [some (.ref l.length), some (.ref 1), some (.ref 16), some (.int yr)] [] (l ++ .inr (8, [.ref 1, .null, .int 0, .int v5, .int v10, .int 0, .ref (l.length + 1), .ref (l.length + 2), .ref (l.length + 3), .ref (l.length + 4), .ref (l.length + 5), .ref (l.length + 6), .ref (l.length + 7)]) :: [.inl (0, 300, .inl (fun _ => 0)), .inl (0, 300, .inl (fun _ => 0)), .inl (0, 300, .inl (fun _ => 0)), .inl (0, 24, .inl (fun _ => 0)), .inl (0, 150, .inl (fun _ => 0)), .inl (0, 150, .inl (fun _ => 0)), .inl (0, 150, .inl (fun _ => 0))], ((((((u + 300) + 300) + 300) + 24) + 150) + 150) + 150)
  refine wp1 (fun n d => r_aloadn f96_81 rfl) ?_
  refine wp1 (fun n d => r_aloadn f96_82 rfl) ?_
  refine w_putE f96_83 rfl ?_
  show Wp X 2 zM96 _ 86 [some (.ref l.length), some (.ref 1), some (.ref 16), some (.int yr)] [] (l ++ .inr (8, [.ref 1, .ref 16, .int 0, .int v5, .int v10, .int 0, .ref (l.length + 1), .ref (l.length + 2), .ref (l.length + 3), .ref (l.length + 4), .ref (l.length + 5), .ref (l.length + 6), .ref (l.length + 7)]) :: [.inl (0, 300, .inl (fun _ => 0)), .inl (0, 300, .inl (fun _ => 0)), .inl (0, 300, .inl (fun _ => 0)), .inl (0, 24, .inl (fun _ => 0)), .inl (0, 150, .inl (fun _ => 0)), .inl (0, 150, .inl (fun _ => 0)), .inl (0, 150, .inl (fun _ => 0))], ((((((u + 300) + 300) + 300) + 24) + 150) + 150) + 150)
  refine wp1 (fun n d => r_aloadn f96_86 rfl) ?_
  refine wp1 (fun n d => r_iloadn f96_87 rfl) ?_
  refine w_putE f96_88 rfl ?_
  refine wp_end (fun n d => r_vreturn f96_91 rfl) ⟨rfl, v5, v10, ?_⟩
  show (l ++ .inr (8, [.ref 1, .ref 16, .int yr, .int v5, .int v10, .int 0, .ref (l.length + 1), .ref (l.length + 2), .ref (l.length + 3), .ref (l.length + 4), .ref (l.length + 5), .ref (l.length + 6), .ref (l.length + 7)]) :: [.inl (0, 300, .inl (fun _ => 0)), .inl (0, 300, .inl (fun _ => 0)), .inl (0, 300, .inl (fun _ => 0)), .inl (0, 24, .inl (fun _ => 0)), .inl (0, 150, .inl (fun _ => 0)), .inl (0, 150, .inl (fun _ => 0)), .inl (0, 150, .inl (fun _ => 0))], ((((((u + 300) + 300) + 300) + 24) + 150) + 150) + 150) = _
  rw [show ((((((u + 300) + 300) + 300) + 24) + 150) + 150) + 150 = u + 1374 by omega]
theorem post_r {σ : List Nat} {h : aH} {q rg : Nat} (hq : σ[q]? = some rg) : dPost ([], [(3, 1000, 0)], ([(0, 0)], [], [], [rg], [], [], [])) σ h (some (.ref q)) := by
  refine ⟨[0], [q], dK_r ⟨rfl, rfl, fun p y q e1 e2 => ?_⟩ hq, ⟨q, rfl, Or.inr ⟨by decide, rfl⟩⟩, trivial⟩
  match p, e1, e2 with
  | 0, e1, e2 => cases e1; cases e2; exact ⟨by decide, by decide⟩
  | p + 1, e1, _ => simp at e1
theorem hand_62 {X : aX} (hX : X 0 = some (8, zab)) : dGood X cC62 := by
  have GB : dGood X cC349 := hT_s hX 9 (by decide) _ rfl
  intro M hM l h σ ρ rh I K L
  have hM0 : zmt[1]? = some zM1 := rfl
  cases (show zmt[1]? = some M from hM).symm.trans hM0
  have a0 := dL_r L (i := 0) (c := 41) (o := 0) rfl (by decide)
  obtain ⟨x1, a1, b1, b1'⟩ := hL_i L K.1 (i := 1) (p := 1) (o := 0) (lo := 0) (hi := 9) rfl rfl
  obtain ⟨x2, a2, b2, b2'⟩ := hL_i L K.1 (i := 2) (p := 2) (o := 0) (lo := 0) (hi := 3649) rfl rfl
  obtain ⟨u0, l1, rfl, e1⟩ := hcons (show l.length = 5 from L.1)
  obtain ⟨u1, l2, rfl, e2⟩ := hcons e1
  obtain ⟨u2, l3, rfl, e3⟩ := hcons e2
  obtain ⟨u3, l4, rfl, e4⟩ := hcons e3
  obtain ⟨u4, l5, rfl, e5⟩ := hcons e4
  cases hnil e5
  cases Option.some.inj a0
  cases Option.some.inj a1
  cases Option.some.inj a2
  have k104 : ∀ (σ1 : List Nat) (h1 : aH) (q : Nat) (x3 : Int32), dI σ1 h1 → σ1[q]? = some 146 → dG cC62.2.2.1 σ h σ1 h1 → Wp X 8 zM1 (hQ cC62 σ h) 104 [some (.ref 41), some (.int x1), some (.int x2), some (.int x3), some (.ref q)] [] h1 := by
    intro σ1 h1 q x3 I1 hq G1
    refine wp1 (fun n d => r_aload f1_104 rfl) ?_
    exact wp_end (fun n d => r_areturn f1_106 rfl) ⟨σ1, I1, G1, _, List.mem_cons_self, post_r hq⟩
  have k97 : ∀ (σ1 : List Nat) (h1 : aH) (q : Nat) (x3 : Int32), dI σ1 h1 → σ1[q]? = some 146 → dG cC62.2.2.1 σ h σ1 h1 → Wp X 8 zM1 (hQ cC62 σ h) 97 [some (.ref 41), some (.int x1), some (.int x2), some (.int x3), some (.ref q)] [] h1 := by
    intro σ1 h1 q x3 I1 hq G1
    obtain ⟨cq, d1, d2⟩ := dH_cell I1.1 hq (t := (cRT[146]?).getD (0, 0, 0, 0, 0, [])) rfl
    obtain ⟨fq, rfl, -, -⟩ := dC_0 d2 rfl
    refine wp1 (fun n d => r_aload f1_97 rfl) ?_
    refine wp1 (fun n d => r_iloadn f1_99 rfl) ?_
    refine wp1 (fun n d => r_iloadn f1_100 rfl) ?_
    refine wp_goodr GB (Y := zM97) (show zmt[97]? = some zM97 from rfl) I1 (ρ := [0, x2.toInt, x3.toInt]) (rh := [q]) (dK_r (kV_of rfl ⟨⟨by decide, by decide⟩, ⟨by show (0 : Int) ≤ _; omega, by show _ ≤ (3649 : Int); omega⟩, iR _, trivial⟩) hq) (dL_R (l := [some (.ref q), some (.int x2), some (.int x3), none]) ⟨li_q rfl, li_i rfl, li_i rfl, li_0, trivial⟩) (fun n d v h' e => r_virt (as := [.int x2, .int x3]) (r := []) f1_101 d1 (show zmt[97]? = some zM97 from rfl) rfl rfl rfl rfl rfl rfl e) (by decide) (fun v h2 σ2 I2 G2 P2 => ?_)
    cases rpost_0 P2 rfl
    exact k104 σ2 h2 q x3 I2 (G2.1 _ _ hq) (dG_trans G1 (dG_sub (by decide) G2))
  have k79 : ∀ (σ1 : List Nat) (h1 : aH) (q : Nat) (x3 : Int32), dI σ1 h1 → σ1[q]? = some 146 → dG cC62.2.2.1 σ h σ1 h1 → Wp X 8 zM1 (hQ cC62 σ h) 79 [some (.ref 41), some (.int x1), some (.int x2), some (.int x3), some (.ref q)] [] h1 := by
    intro σ1 h1 q x3 I1 hq G1
    obtain ⟨cq, d1, d2⟩ := dH_cell I1.1 hq (t := (cRT[146]?).getD (0, 0, 0, 0, 0, [])) rfl
    obtain ⟨fq, rfl, -, d3⟩ := dC_0 d2 rfl
    obtain ⟨v3, g3, t3⟩ := d3 3 _ rfl
    obtain ⟨v4, g4, t4⟩ := d3 4 _ rfl
    obtain ⟨y3, rfl, -, -⟩ := dT_i t3 rfl
    obtain ⟨y4, rfl, -, -⟩ := dT_i t4 rfl
    refine wp1 (fun n d => r_aload f1_79 rfl) ?_
    refine w_get f1_81 d1 g3 ?_
    refine wp1 (fun n d => r_iloadn f1_84 rfl) ?_
    refine w_icmp_ne f1_85 (fun _ => k97 σ1 h1 q x3 I1 hq G1) (fun _ => ?_)
    refine wp1 (fun n d => r_aload f1_88 rfl) ?_
    refine w_get f1_90 d1 g4 ?_
    refine wp1 (fun n d => r_iloadn f1_93 rfl) ?_
    exact w_icmp_eq f1_94 (fun _ => k104 σ1 h1 q x3 I1 hq G1) (fun _ => k97 σ1 h1 q x3 I1 hq G1)
  refine hEnd ?_
  show Wp X 8 zM1 _ 0 [some (.ref 41), some (.int x1), some (.int x2), u3, u4] [] h
  obtain ⟨g, c42, hg⟩ := hI_rr I (r := 42) (a := 4) (n := 10) (rg := 146) (Or.inl ⟨rfl, rfl, rfl, rfl⟩)
  refine wp1 (fun n d => r_aloadn f1_0 rfl) ?_
  obtain ⟨fs1001, c1001⟩ := hI_o I (r := 41) (ci := 0) (by decide +kernel)
  have F1002 := hI_r I c1001 (f := 0) (q := 1) (by decide +kernel)
  refine w_get f1_1 c1001 F1002 ?_
  obtain ⟨fs1003, c1003⟩ := hI_o I (r := 1) (ci := 6) (by decide +kernel)
  obtain ⟨x1_1004, F1004, lo1004, hi1004⟩ := hI_i I c1003 (f := 1) (lo := 0) (hi := 150) (by decide +kernel)
  refine w_get f1_4 c1003 F1004 ?_
  refine wp1 (fun n d => r_aloadn f1_7 rfl) ?_
  refine w_get f1_8 c1001 F1002 ?_
  obtain ⟨x5_1005, F1005, lo1005, hi1005⟩ := hI_i I c1003 (f := 5) (lo := (-2147483648)) (hi := 2147483647) (by decide +kernel)
  refine w_get f1_11 c1003 F1005 ?_
  refine w_iadd' f1_14 (fun v14 => ?_)
  refine wp1 (fun n d => r_aloadn f1_15 rfl) ?_
  have F1006 := hI_r I c1001 (f := 1) (q := 16) (by decide +kernel)
  refine w_get f1_16 c1001 F1006 ?_
  obtain ⟨fs1007, c1007⟩ := hI_o I (r := 16) (ci := 2) (by decide +kernel)
  obtain ⟨x1_1008, F1008, lo1008, hi1008⟩ := hI_i I c1007 (f := 1) (lo := 0) (hi := 300) (by decide +kernel)
  refine w_get f1_19 c1007 F1008 ?_
  refine w_iadd' f1_22 (fun v22 => ?_)
  refine wp1 (fun n d => r_aloadn f1_23 rfl) ?_
  refine w_get f1_24 c1001 F1006 ?_
  obtain ⟨x2_1009, F1009, lo1009, hi1009⟩ := hI_i I c1007 (f := 2) (lo := 0) (hi := 40) (by decide +kernel)
  refine w_get f1_27 c1007 F1009 ?_
  refine w_iadd' f1_30 (fun v30 => ?_)
  refine wp1 (fun n d => r_aloadn f1_31 rfl) ?_
  refine w_get f1_32 c1001 F1006 ?_
  obtain ⟨x3_1010, F1010, lo1010, hi1010⟩ := hI_i I c1007 (f := 3) (lo := 0) (hi := 200) (by decide +kernel)
  refine w_get f1_35 c1007 F1010 ?_
  refine w_iadd' f1_38 (fun v38 => ?_)
  refine wp1 (fun n d => r_istoren (L' := [some (.ref 41), some (.int x1), some (.int x2), some (.int v38), u4]) f1_39 rfl rfl) ?_
  refine wp1 (fun n d => r_aloadn f1_40 rfl) ?_
  have F1011 := hI_r I c1001 (f := 3) (q := 42) (by decide +kernel)
  refine w_get f1_41 c1001 F1011 ?_
  refine wp1 (fun n d => r_iloadn f1_44 rfl) ?_
  cases hgx : g x1.toInt.toNat with
  | some q =>
    refine wp1 (fun n d => r_aald4 (v := .ref q) f1_45 c42 (ix_ok (by omega) (by omega)) (by show arf (g x1.toInt.toNat) = _; rw [hgx]; rfl)) ?_
    refine wp1 (fun n d => r_astore (L' := [some (.ref 41), some (.int x1), some (.int x2), some (.int v38), some (.ref q)]) f1_46 rfl rfl) ?_
    refine wp1 (fun n d => r_aload f1_48 rfl) ?_
    refine wp1 (fun n d => r_ifnonnull_r f1_50) ?_
    exact k79 σ h q v38 I (hg _ _ hgx) (dG_refl _ _ _)
  | none =>
    refine wp1 (fun n d => r_aald4 (v := .null) f1_45 c42 (ix_ok (by omega) (by omega)) (by show arf (g x1.toInt.toNat) = _; rw [hgx]; rfl)) ?_
    refine wp1 (fun n d => r_astoreN (L' := [some (.ref 41), some (.int x1), some (.int x2), some (.int v38), some (.null)]) f1_46 rfl rfl) ?_
    refine wp1 (fun n d => r_aloadN f1_48 rfl) ?_
    refine wp1 (fun n d => r_ifnonnull_n f1_50) ?_
    refine wp1 (fun n d => r_new (o := h.1.length) (h' := (h.1 ++ [.inr (8, [.null, .null, .int 0, .int 0, .int 0, .int 0, .null, .null, .null, .null, .null, .null, .null])], h.2 + 13)) f1_53 rfl rfl) ?_
    refine wp1 (fun n d => r_dup f1_56 rfl) ?_
    obtain ⟨fs41, c41⟩ := hI_o I (r := 41) (ci := 0) (by decide +kernel)
    have F0 := hI_r I c41 (f := 0) (q := 1) (by decide +kernel)
    have F1 := hI_r I c41 (f := 1) (q := 16) (by decide +kernel)
    have c41b : (h.1 ++ [.inr (8, [.null, .null, .int 0, .int 0, .int 0, .int 0, .null, .null, .null, .null, .null, .null, .null])])[41]? = some (.inr (0, fs41)) := by
      rw [List.getElem?_append_left (List.getElem?_eq_some_iff.mp c41).1]; exact c41
    refine wp1 (fun n d => r_aloadn f1_57 rfl) ?_
    refine w_get f1_58 c41b F0 ?_
    refine wp1 (fun n d => r_aloadn f1_61 rfl) ?_
    refine w_get f1_62 c41b F1 ?_
    refine wp1 (fun n d => r_iloadn f1_65 rfl) ?_
    refine wp_in (lv := 2) (Y := zM96) (sea_init (l := h.1) (u := h.2 + 13) (yr := x1)) (fun n d v h' e => r_init (o := h.1.length) (as := [.ref 1, .ref 16, .int x1]) (r := [.ref h.1.length]) f1_66 rfl (show zmt[96]? = some zM96 from rfl) rfl rfl rfl rfl rfl rfl e) (by decide) ?_
    rintro v h1 ⟨rfl, y3, y4, rfl⟩
    show Wp _ _ _ _ 69 [some (.ref 41), some (.int x1), some (.int x2), some (.int v38), some (.null)] [.ref h.1.length] _
    have at_ : ∀ i r : Nat, ([146, 147, 148, 149, 150, 151, 152, 153] : List Nat)[i]? = some r → (σ ++ [146, 147, 148, 149, 150, 151, 152, 153])[h.1.length + i]? = some r := fun i r e => by
      rw [List.getElem?_append_right (by rw [I.1.1]; omega), I.1.1, Nat.add_sub_cancel_left]
      exact e
    have I1 : dI (σ ++ [146, 147, 148, 149, 150, 151, 152, 153]) (h.1 ++ [.inr (8, [.ref 1, .ref 16, .int x1, .int y3, .int y4, .int 0, .ref (h.1.length + 1), .ref (h.1.length + 2), .ref (h.1.length + 3), .ref (h.1.length + 4), .ref (h.1.length + 5), .ref (h.1.length + 6), .ref (h.1.length + 7)]), .inl (0, 300, .inl (fun _ => 0)), .inl (0, 300, .inl (fun _ => 0)), .inl (0, 300, .inl (fun _ => 0)), .inl (0, 24, .inl (fun _ => 0)), .inl (0, 150, .inl (fun _ => 0)), .inl (0, 150, .inl (fun _ => 0)), .inl (0, 150, .inl (fun _ => 0))], h.2 + 13 + 1374) := dI_app I rfl (fun r hr => by
      simp only [List.mem_cons, List.not_mem_nil, or_false] at hr
      omega) (fun i r e => by
      match i, e with
      | 0, e =>
        cases e
        refine ⟨_, _, rfl, rfl, ⟨_, rfl, rfl, fun i ty e => ?_⟩⟩
        match i, e with
        | 0, e => cases e; exact ⟨_, rfl, _, rfl, pre_app _ _ (I.1.2.2.2 1 (by decide))⟩
        | 1, e => cases e; exact ⟨_, rfl, _, rfl, pre_app _ _ (I.1.2.2.2 16 (by decide))⟩
        | 2, e => cases e; exact ⟨_, rfl, _, rfl, ⟨by show (0 : Int) ≤ _; omega, by show _ ≤ (9 : Int); omega⟩⟩
        | 3, e => cases e; exact ⟨_, rfl, _, rfl, iR _⟩
        | 4, e => cases e; exact ⟨_, rfl, _, rfl, iR _⟩
        | 5, e => cases e; exact ⟨_, rfl, _, rfl, ⟨by show (0 : Int) ≤ ((0 : Int32)).toInt; decide, by show ((0 : Int32)).toInt ≤ (300 : Int); decide⟩⟩
        | 6, e => cases e; exact ⟨_, rfl, _, rfl, at_ 1 _ rfl⟩
        | 7, e => cases e; exact ⟨_, rfl, _, rfl, at_ 2 _ rfl⟩
        | 8, e => cases e; exact ⟨_, rfl, _, rfl, at_ 3 _ rfl⟩
        | 9, e => cases e; exact ⟨_, rfl, _, rfl, at_ 4 _ rfl⟩
        | 10, e => cases e; exact ⟨_, rfl, _, rfl, at_ 5 _ rfl⟩
        | 11, e => cases e; exact ⟨_, rfl, _, rfl, at_ 6 _ rfl⟩
        | 12, e => cases e; exact ⟨_, rfl, _, rfl, at_ 7 _ rfl⟩
        | i + 13, e => simp at e
      | 1, e =>
        cases e
        exact ⟨_, _, rfl, rfl, ⟨_, rfl, fun j _ => by show (0 : Int) ≤ ((0 : Int32)).toInt ∧ ((0 : Int32)).toInt ≤ (299 : Int); decide⟩⟩
      | 2, e =>
        cases e
        exact ⟨_, _, rfl, rfl, ⟨_, rfl, fun j _ => by show ((-2147483648) : Int) ≤ ((0 : Int32)).toInt ∧ ((0 : Int32)).toInt ≤ (2147483647 : Int); decide⟩⟩
      | 3, e =>
        cases e
        exact ⟨_, _, rfl, rfl, ⟨_, rfl, fun j _ => by show ((-2147483648) : Int) ≤ ((0 : Int32)).toInt ∧ ((0 : Int32)).toInt ≤ (2147483647 : Int); decide⟩⟩
      | 4, e =>
        cases e
        exact ⟨_, _, rfl, rfl, ⟨_, rfl, fun j _ => by show ((-2147483648) : Int) ≤ ((0 : Int32)).toInt ∧ ((0 : Int32)).toInt ≤ (2147483647 : Int); decide⟩⟩
      | 5, e =>
        cases e
        exact ⟨_, _, rfl, rfl, ⟨_, rfl, fun j _ => by show ((-2147483648) : Int) ≤ ((0 : Int32)).toInt ∧ ((0 : Int32)).toInt ≤ (2147483647 : Int); decide⟩⟩
      | 6, e =>
        cases e
        exact ⟨_, _, rfl, rfl, ⟨_, rfl, fun j _ => by show ((-2147483648) : Int) ≤ ((0 : Int32)).toInt ∧ ((0 : Int32)).toInt ≤ (2147483647 : Int); decide⟩⟩
      | 7, e =>
        cases e
        exact ⟨_, _, rfl, rfl, ⟨_, rfl, fun j _ => by show ((-1) : Int) ≤ ((0 : Int32)).toInt ∧ ((0 : Int32)).toInt ≤ (299 : Int); decide⟩⟩
      | i + 8, e => simp at e)
    have P1 := dPh_app I (cs := [.inr (8, [.ref 1, .ref 16, .int x1, .int y3, .int y4, .int 0, .ref (h.1.length + 1), .ref (h.1.length + 2), .ref (h.1.length + 3), .ref (h.1.length + 4), .ref (h.1.length + 5), .ref (h.1.length + 6), .ref (h.1.length + 7)]), .inl (0, 300, .inl (fun _ => 0)), .inl (0, 300, .inl (fun _ => 0)), .inl (0, 300, .inl (fun _ => 0)), .inl (0, 24, .inl (fun _ => 0)), .inl (0, 150, .inl (fun _ => 0)), .inl (0, 150, .inl (fun _ => 0)), .inl (0, 150, .inl (fun _ => 0))]) (u := h.2 + 13 + 1374)
    have q1 : (σ ++ [146, 147, 148, 149, 150, 151, 152, 153])[h.1.length]? = some 146 := at_ 0 146 rfl
    have N1 : dGn cC62.2.2.1 σ h (σ ++ [146, 147, 148, 149, 150, 151, 152, 153]) (h.1 ++ [.inr (8, [.ref 1, .ref 16, .int x1, .int y3, .int y4, .int 0, .ref (h.1.length + 1), .ref (h.1.length + 2), .ref (h.1.length + 3), .ref (h.1.length + 4), .ref (h.1.length + 5), .ref (h.1.length + 6), .ref (h.1.length + 7)]), .inl (0, 300, .inl (fun _ => 0)), .inl (0, 300, .inl (fun _ => 0)), .inl (0, 300, .inl (fun _ => 0)), .inl (0, 24, .inl (fun _ => 0)), .inl (0, 150, .inl (fun _ => 0)), .inl (0, 150, .inl (fun _ => 0)), .inl (0, 150, .inl (fun _ => 0))], h.2 + 13 + 1374) := dGn_app
    have c42b : ((h.1 ++ [.inr (8, [.ref 1, .ref 16, .int x1, .int y3, .int y4, .int 0, .ref (h.1.length + 1), .ref (h.1.length + 2), .ref (h.1.length + 3), .ref (h.1.length + 4), .ref (h.1.length + 5), .ref (h.1.length + 6), .ref (h.1.length + 7)]), .inl (0, 300, .inl (fun _ => 0)), .inl (0, 300, .inl (fun _ => 0)), .inl (0, 300, .inl (fun _ => 0)), .inl (0, 24, .inl (fun _ => 0)), .inl (0, 150, .inl (fun _ => 0)), .inl (0, 150, .inl (fun _ => 0)), .inl (0, 150, .inl (fun _ => 0))], h.2 + 13 + 1374) : aH).1[42]? = some (.inl (4, 10, .inr (.inr (.inr (.inr g))))) := by
      show (h.1 ++ [.inr (8, [.ref 1, .ref 16, .int x1, .int y3, .int y4, .int 0, .ref (h.1.length + 1), .ref (h.1.length + 2), .ref (h.1.length + 3), .ref (h.1.length + 4), .ref (h.1.length + 5), .ref (h.1.length + 6), .ref (h.1.length + 7)]), .inl (0, 300, .inl (fun _ => 0)), .inl (0, 300, .inl (fun _ => 0)), .inl (0, 300, .inl (fun _ => 0)), .inl (0, 24, .inl (fun _ => 0)), .inl (0, 150, .inl (fun _ => 0)), .inl (0, 150, .inl (fun _ => 0)), .inl (0, 150, .inl (fun _ => 0))])[42]? = _
      rw [List.getElem?_append_left (List.getElem?_eq_some_iff.mp c42).1]; exact c42
    simp only [List.length_cons, List.length_nil] at P1
    generalize ((h.1 ++ [.inr (8, [.ref 1, .ref 16, .int x1, .int y3, .int y4, .int 0, .ref (h.1.length + 1), .ref (h.1.length + 2), .ref (h.1.length + 3), .ref (h.1.length + 4), .ref (h.1.length + 5), .ref (h.1.length + 6), .ref (h.1.length + 7)]), .inl (0, 300, .inl (fun _ => 0)), .inl (0, 300, .inl (fun _ => 0)), .inl (0, 300, .inl (fun _ => 0)), .inl (0, 24, .inl (fun _ => 0)), .inl (0, 150, .inl (fun _ => 0)), .inl (0, 150, .inl (fun _ => 0)), .inl (0, 150, .inl (fun _ => 0))], h.2 + 13 + 1374) : aH) = h2 at I1 P1 N1 c42b ⊢
    generalize hq : h.1.length = q at q1 ⊢
    obtain ⟨cq, d1, d2⟩ := dH_cell I1.1 q1 (t := (cRT[146]?).getD (0, 0, 0, 0, 0, [])) rfl
    obtain ⟨fq, rfl, -, -⟩ := dC_0 d2 rfl
    obtain ⟨fs2, e41⟩ := hI_o I1 (r := 41) (ci := 0) (by decide +kernel)
    have F3 := hI_r I1 e41 (f := 3) (q := 42) (by decide +kernel)
    refine wp1 (fun n d => r_astore (L' := [some (.ref 41), some (.int x1), some (.int x2), some (.int v38), some (.ref q)]) f1_69 rfl rfl) ?_
    refine wp1 (fun n d => r_aloadn f1_71 rfl) ?_
    refine w_get f1_72 e41 F3 ?_
    refine wp1 (fun n d => r_iloadn f1_75 rfl) ?_
    refine wp1 (fun n d => r_aload f1_76 rfl) ?_
    obtain ⟨I3, N3, P3⟩ := hI_ref I1 (W := cC62.2.2.1) (r := 42) (a := 4) (n := 10) (k := x1.toInt.toNat) (q := q) (rg := 146) (Or.inl ⟨rfl, rfl, rfl, rfl⟩) (by decide) c42b q1 (by omega) hgx
    refine wp1 (fun n d => r_aast f1_78 c42b d1 (ix_ok (by omega) (by omega)) rfl) ?_
    refine k79 _ _ q v38 I3 q1 ⟨fun z r e => N1.1 z r e, (dGn_trans N1 N3).2, ?_⟩
    rw [if_pos rfl] at P3
    show dPh (h2.1.set 42 (.inl (4, 10, .inr (.inr (.inr (.inr (va_up g x1.toInt.toNat (some q))))))), h2.2) ≤ dPh h
    omega
end
section
-- ===== by hand: the parser, its state and its leaves =====
theorem f251_0 : aF 0 zM251.2.2.2.2.2.2.2 = some (0, (.aload_n 0), 1, 0, 0) := by decide +kernel
theorem f251_1 : aF 1 zM251.2.2.2.2.2.2.2 = some (1, (.getfield 394), 3, 12, 64) := by decide +kernel
theorem f251_4 : aF 4 zM251.2.2.2.2.2.2.2 = some (4, (.aload_n 0), 1, 0, 0) := by decide +kernel
theorem f251_5 : aF 5 zM251.2.2.2.2.2.2.2 = some (5, (.getfield 391), 3, 12, 54) := by decide +kernel
theorem f251_8 : aF 8 zM251.2.2.2.2.2.2.2 = some (8, (.if_icmp .ge 15), 3, 23, 0) := by decide +kernel
theorem f251_11 : aF 11 zM251.2.2.2.2.2.2.2 = some (11, (.aload_n 0), 1, 0, 0) := by decide +kernel
theorem f251_12 : aF 12 zM251.2.2.2.2.2.2.2 = some (12, (.getfield 148), 3, 12, 53) := by decide +kernel
theorem f251_15 : aF 15 zM251.2.2.2.2.2.2.2 = some (15, (.aload_n 0), 1, 0, 0) := by decide +kernel
theorem f251_16 : aF 16 zM251.2.2.2.2.2.2.2 = some (16, (.getfield 394), 3, 12, 64) := by decide +kernel
theorem f251_19 : aF 19 zM251.2.2.2.2.2.2.2 = some (19, .baload, 1, 0, 0) := by decide +kernel
theorem f251_20 : aF 20 zM251.2.2.2.2.2.2.2 = some (20, (.goto 4), 3, 24, 0) := by decide +kernel
theorem f251_23 : aF 23 zM251.2.2.2.2.2.2.2 = some (23, (.iconst (-1)), 1, 0, 0) := by decide +kernel
theorem f251_24 : aF 24 zM251.2.2.2.2.2.2.2 = some (24, .ireturn, 1, 0, 0) := by decide +kernel
theorem f252_0 : aF 0 zM252.2.2.2.2.2.2.2 = some (0, (.aload_n 0), 1, 0, 0) := by decide +kernel
theorem f252_1 : aF 1 zM252.2.2.2.2.2.2.2 = some (1, (.getfield 397), 3, 12, 65) := by decide +kernel
theorem f252_4 : aF 4 zM252.2.2.2.2.2.2.2 = some (4, (.ifCond .ge 11), 3, 15, 0) := by decide +kernel
theorem f252_7 : aF 7 zM252.2.2.2.2.2.2.2 = some (7, (.aload_n 0), 1, 0, 0) := by decide +kernel
theorem f252_8 : aF 8 zM252.2.2.2.2.2.2.2 = some (8, (.aload_n 0), 1, 0, 0) := by decide +kernel
theorem f252_9 : aF 9 zM252.2.2.2.2.2.2.2 = some (9, (.getfield 394), 3, 12, 64) := by decide +kernel
theorem f252_12 : aF 12 zM252.2.2.2.2.2.2.2 = some (12, (.putfield 397), 3, 12, 65) := by decide +kernel
theorem f252_15 : aF 15 zM252.2.2.2.2.2.2.2 = some (15, .return_, 1, 0, 0) := by decide +kernel
theorem f253_0 : aF 0 zM253.2.2.2.2.2.2.2 = some (0, (.aload_n 0), 1, 0, 0) := by decide +kernel
theorem f253_1 : aF 1 zM253.2.2.2.2.2.2.2 = some (1, (.getfield 170), 3, 12, 62) := by decide +kernel
theorem f253_4 : aF 4 zM253.2.2.2.2.2.2.2 = some (4, (.sipush 170), 3, 0, 0) := by decide +kernel
theorem f253_7 : aF 7 zM253.2.2.2.2.2.2.2 = some (7, (.aload_n 0), 1, 0, 0) := by decide +kernel
theorem f253_8 : aF 8 zM253.2.2.2.2.2.2.2 = some (8, (.getfield 400), 3, 12, 67) := by decide +kernel
theorem f253_11 : aF 11 zM253.2.2.2.2.2.2.2 = some (11, .imul, 1, 0, 0) := by decide +kernel
theorem f253_12 : aF 12 zM253.2.2.2.2.2.2.2 = some (12, (.aload_n 0), 1, 0, 0) := by decide +kernel
theorem f253_13 : aF 13 zM253.2.2.2.2.2.2.2 = some (13, (.getfield 403), 3, 12, 68) := by decide +kernel
theorem f253_16 : aF 16 zM253.2.2.2.2.2.2.2 = some (16, .iadd, 1, 0, 0) := by decide +kernel
theorem f253_17 : aF 17 zM253.2.2.2.2.2.2.2 = some (17, (.iload_n 1), 1, 0, 0) := by decide +kernel
theorem f253_18 : aF 18 zM253.2.2.2.2.2.2.2 = some (18, .iastore, 1, 0, 0) := by decide +kernel
theorem f253_19 : aF 19 zM253.2.2.2.2.2.2.2 = some (19, (.aload_n 0), 1, 0, 0) := by decide +kernel
theorem f253_20 : aF 20 zM253.2.2.2.2.2.2.2 = some (20, (.getfield 173), 3, 12, 63) := by decide +kernel
theorem f253_23 : aF 23 zM253.2.2.2.2.2.2.2 = some (23, (.sipush 170), 3, 0, 0) := by decide +kernel
theorem f253_26 : aF 26 zM253.2.2.2.2.2.2.2 = some (26, (.aload_n 0), 1, 0, 0) := by decide +kernel
theorem f253_27 : aF 27 zM253.2.2.2.2.2.2.2 = some (27, (.getfield 400), 3, 12, 67) := by decide +kernel
theorem f253_30 : aF 30 zM253.2.2.2.2.2.2.2 = some (30, .imul, 1, 0, 0) := by decide +kernel
theorem f253_31 : aF 31 zM253.2.2.2.2.2.2.2 = some (31, (.aload_n 0), 1, 0, 0) := by decide +kernel
theorem f253_32 : aF 32 zM253.2.2.2.2.2.2.2 = some (32, (.getfield 403), 3, 12, 68) := by decide +kernel
theorem f253_35 : aF 35 zM253.2.2.2.2.2.2.2 = some (35, .iadd, 1, 0, 0) := by decide +kernel
theorem f253_36 : aF 36 zM253.2.2.2.2.2.2.2 = some (36, (.iload_n 2), 1, 0, 0) := by decide +kernel
theorem f253_37 : aF 37 zM253.2.2.2.2.2.2.2 = some (37, .iastore, 1, 0, 0) := by decide +kernel
theorem f253_38 : aF 38 zM253.2.2.2.2.2.2.2 = some (38, (.aload_n 0), 1, 0, 0) := by decide +kernel
theorem f253_39 : aF 39 zM253.2.2.2.2.2.2.2 = some (39, .dup, 1, 0, 0) := by decide +kernel
theorem f253_40 : aF 40 zM253.2.2.2.2.2.2.2 = some (40, (.getfield 403), 3, 12, 68) := by decide +kernel
theorem f253_43 : aF 43 zM253.2.2.2.2.2.2.2 = some (43, (.iconst 1), 1, 0, 0) := by decide +kernel
theorem f253_44 : aF 44 zM253.2.2.2.2.2.2.2 = some (44, .iadd, 1, 0, 0) := by decide +kernel
theorem f253_45 : aF 45 zM253.2.2.2.2.2.2.2 = some (45, (.putfield 403), 3, 12, 68) := by decide +kernel
theorem f253_48 : aF 48 zM253.2.2.2.2.2.2.2 = some (48, .return_, 1, 0, 0) := by decide +kernel
theorem f254_0 : aF 0 zM254.2.2.2.2.2.2.2 = some (0, (.aload_n 0), 1, 0, 0) := by decide +kernel
theorem f254_1 : aF 1 zM254.2.2.2.2.2.2.2 = some (1, (.getfield 406), 3, 12, 66) := by decide +kernel
theorem f254_4 : aF 4 zM254.2.2.2.2.2.2.2 = some (4, (.bipush 8), 2, 0, 0) := by decide +kernel
theorem f254_6 : aF 6 zM254.2.2.2.2.2.2.2 = some (6, (.if_icmp .ne 9), 3, 15, 0) := by decide +kernel
theorem f254_9 : aF 9 zM254.2.2.2.2.2.2.2 = some (9, (.aload_n 0), 1, 0, 0) := by decide +kernel
theorem f254_10 : aF 10 zM254.2.2.2.2.2.2.2 = some (10, (.invokevirtual 409), 3, 252, 0) := by decide +kernel
theorem f254_13 : aF 13 zM254.2.2.2.2.2.2.2 = some (13, (.iconst 0), 1, 0, 0) := by decide +kernel
theorem f254_14 : aF 14 zM254.2.2.2.2.2.2.2 = some (14, .ireturn, 1, 0, 0) := by decide +kernel
theorem f254_15 : aF 15 zM254.2.2.2.2.2.2.2 = some (15, (.aload_n 0), 1, 0, 0) := by decide +kernel
theorem f254_16 : aF 16 zM254.2.2.2.2.2.2.2 = some (16, .dup, 1, 0, 0) := by decide +kernel
theorem f254_17 : aF 17 zM254.2.2.2.2.2.2.2 = some (17, (.getfield 406), 3, 12, 66) := by decide +kernel
theorem f254_20 : aF 20 zM254.2.2.2.2.2.2.2 = some (20, (.iconst 1), 1, 0, 0) := by decide +kernel
theorem f254_21 : aF 21 zM254.2.2.2.2.2.2.2 = some (21, .iadd, 1, 0, 0) := by decide +kernel
theorem f254_22 : aF 22 zM254.2.2.2.2.2.2.2 = some (22, (.putfield 406), 3, 12, 66) := by decide +kernel
theorem f254_25 : aF 25 zM254.2.2.2.2.2.2.2 = some (25, (.aload_n 0), 1, 0, 0) := by decide +kernel
theorem f254_26 : aF 26 zM254.2.2.2.2.2.2.2 = some (26, .dup, 1, 0, 0) := by decide +kernel
theorem f254_27 : aF 27 zM254.2.2.2.2.2.2.2 = some (27, (.getfield 394), 3, 12, 64) := by decide +kernel
theorem f254_30 : aF 30 zM254.2.2.2.2.2.2.2 = some (30, (.iconst 1), 1, 0, 0) := by decide +kernel
theorem f254_31 : aF 31 zM254.2.2.2.2.2.2.2 = some (31, .iadd, 1, 0, 0) := by decide +kernel
theorem f254_32 : aF 32 zM254.2.2.2.2.2.2.2 = some (32, (.putfield 394), 3, 12, 64) := by decide +kernel
theorem f254_35 : aF 35 zM254.2.2.2.2.2.2.2 = some (35, (.iconst 1), 1, 0, 0) := by decide +kernel
theorem f254_36 : aF 36 zM254.2.2.2.2.2.2.2 = some (36, .ireturn, 1, 0, 0) := by decide +kernel
def lWP : List (Nat × Nat) := [(72, 64), (72, 65), (72, 66), (72, 68), (122, 0), (123, 0)]
def stp (o v : Int32) (n n' : Nat) : Prop := (o = 1 ∧ n' = n + 1) ∨ (o = 2 ∧ 0 ≤ v.toInt ∧ v.toInt ≤ 12 ∧ n' = n + 1) ∨ ((o = 3 ∨ o = 4) ∧ 1 ≤ n ∧ n' = n) ∨ (¬ o = 1 ∧ ¬ o = 2 ∧ ¬ o = 3 ∧ ¬ o = 4 ∧ 2 ≤ n ∧ n' + 1 = n)
def seg (ga gw : Nat → Int32) (b a e n n' : Nat) : Prop := ∃ H : Nat → Nat, H a = n ∧ H e = n' ∧ ∀ k, a ≤ k → k < e → stp (ga (b + k)) (gw (b + k)) (H k) (H (k + 1))
theorem seg_app {ga gw : Nat → Int32} {b a m e n n1 n2 : Nat} (h1 : a ≤ m) (h2 : m ≤ e) (s1 : seg ga gw b a m n n1) (s2 : seg ga gw b m e n1 n2) : seg ga gw b a e n n2 := by
  obtain ⟨H1, a1, a2, a3⟩ := s1
  obtain ⟨H2, b1, b2, b3⟩ := s2
  refine ⟨fun k => if k < m then H1 k else H2 k, ?_, ?_, fun k k1 k2 => ?_⟩
  · show (if a < m then H1 a else H2 a) = n
    by_cases q : a < m
    · rw [if_pos q]; exact a1
    · have : a = m := by omega
      subst this
      rw [if_neg q, b1, ← a2, a1]
  · show (if e < m then H1 e else H2 e) = n2
    rw [if_neg (by omega)]; exact b2
  · show stp _ _ (if k < m then H1 k else H2 k) (if k + 1 < m then H1 (k + 1) else H2 (k + 1))
    by_cases q : k + 1 < m
    · rw [if_pos (by omega), if_pos q]; exact a3 k k1 (by omega)
    · by_cases q2 : k < m
      · have : k + 1 = m := by omega
        rw [if_pos q2, if_neg q]
        have := a3 k k1 q2
        rw [‹k + 1 = m›] at this ⊢
        rw [b1, ← a2]
        exact this
      · rw [if_neg q2, if_neg q]; exact b3 k (by omega) k2
theorem seg_congr {ga gw ga' gw' : Nat → Int32} {b a e n n' : Nat} (h : ∀ k, a ≤ k → k < e → ga' (b + k) = ga (b + k) ∧ gw' (b + k) = gw (b + k)) (s : seg ga gw b a e n n') : seg ga' gw' b a e n n' := by
  obtain ⟨H, a1, a2, a3⟩ := s
  exact ⟨H, a1, a2, fun k k1 k2 => by rw [(h k k1 k2).1, (h k k1 k2).2]; exact a3 k k1 k2⟩
theorem seg_one {ga gw : Nat → Int32} {b a n n' : Nat} (s : stp (ga (b + a)) (gw (b + a)) n n') : seg ga gw b a (a + 1) n n' := ⟨fun k => if k = a then n else n', by show (if a = a then n else n') = n; rw [if_pos rfl], by show (if a + 1 = a then n else n') = n'; rw [if_neg (by omega)], fun k k1 k2 => by
  have : k = a := by omega
  subst this
  show stp _ _ (if k = k then n else n') (if k + 1 = k then n else n')
  rw [if_pos rfl, if_neg (by omega)]
  exact s⟩
theorem wfS_seg {ga gw : Nat → Int32} {t a e n : Nat} (h1 : a ≤ e) (h2 : e ≤ 170) (s : seg ga gw (170 * t) a e 0 n) : wfS ga gw t a e := by
  obtain ⟨H, a1, -, a3⟩ := s
  exact ⟨h1, h2, H, a1, fun k k1 k2 => a3 k k1 k2⟩
theorem wfS_congr {ga gw ga' gw' : Nat → Int32} {t a e : Nat} (h : ∀ k, k < 170 → ga' (170 * t + k) = ga (170 * t + k) ∧ gw' (170 * t + k) = gw (170 * t + k)) (s : wfS ga gw t a e) : wfS ga' gw' t a e := by
  obtain ⟨a1, a2, H, a3, a4⟩ := s
  refine ⟨a1, a2, H, a3, fun k k1 k2 => ?_⟩
  obtain ⟨e1, e2⟩ := h k (by omega)
  rw [e1, e2]
  exact a4 k k1 k2
theorem wft_congr {ga gw gt gl gm ga' gw' gt' gl' gm' : Nat → Int32} {x : Int32} (h1 : ∀ t : Nat, (t : Int) < x.toInt → ∀ k, k < 170 → ga' (170 * t + k) = ga (170 * t + k) ∧ gw' (170 * t + k) = gw (170 * t + k)) (h2 : ∀ t : Nat, (t : Int) < x.toInt → ∀ k, k < 90 → gt' (90 * t + k) = gt (90 * t + k) ∧ gl' (90 * t + k) = gl (90 * t + k)) (h3 : ∀ t : Nat, (t : Int) < x.toInt → gm' t = gm t) (s : wft ga gw gt gl gm x) : wft ga' gw' gt' gl' gm' x := by
  intro t ht
  obtain ⟨a1, a2, a3⟩ := s t ht
  rw [h3 t ht]
  refine ⟨a1, a2, fun i hi => ?_⟩
  obtain ⟨a, e, l, b1, b2, b3, b4, b5, b6⟩ := a3 i hi
  have q := h2 t ht i (by omega)
  refine ⟨a, e, l, b1, fun j hj => ?_, by rw [q.1]; exact b3, by rw [q.2]; exact b4, wfS_congr (h1 t ht) b5, wfS_congr (h1 t ht) b6⟩
  rw [(h2 t ht j (by omega)).2]
  exact b2 j hj
theorem hI_txt {σ : List Nat} {h : aH} (I : dI σ h) {W : List (Nat × Nat)} {r n : Nat} (hW : cWn W r 0 = true) {fs : List Value} {x : Int32} {g : Nat → Int32} {j : Nat} {y : Int32} (hr : r = 122 ∧ n = 2890 ∨ r = 123 ∧ n = 2890 ∨ r = 120 ∧ n = 1530 ∨ r = 121 ∧ n = 1530 ∨ r = 119 ∧ n = 17) (c72 : h.1[72]? = some (.inr (12, fs))) (c55 : fs[55]? = some (.int x)) (c : h.1[r]? = some (.inl (0, n, .inl g)))
    (hj : (r = 122 ∨ r = 123 → ∀ t k : Nat, (t : Int) < x.toInt → k < 170 → 170 * t + k ≠ j) ∧ (r = 120 ∨ r = 121 → ∀ t k : Nat, (t : Int) < x.toInt → k < 90 → 90 * t + k ≠ j) ∧ (r = 119 → ∀ t : Nat, (t : Int) < x.toInt → t ≠ j)) :
    dI σ (h.1.set r (.inl (0, n, .inl (upd g j y))), h.2) ∧ dG W σ h σ (h.1.set r (.inl (0, n, .inl (upd g j y))), h.2) := by
  have tk : tkA r 0 n (-2147483648) 2147483647 = true := by
    rcases hr with ⟨rfl, rfl⟩ | ⟨rfl, rfl⟩ | ⟨rfl, rfl⟩ | ⟨rfl, rfl⟩ | ⟨rfl, rfl⟩ <;> decide +kernel
  obtain ⟨H1, G1⟩ := hS_a I.1 tk hW c (g' := upd g j y) (fun j _ => iR _)
  refine ⟨⟨H1, hJ2 I.2.1 fun q hq => set_ne' (by omega), ?_⟩, G1⟩
  obtain ⟨ga, gw, gt, gl, gm, fs', x', a1, a2, a3, a4, a5, a6, a7, a8⟩ := I.2.2
  cases c72.symm.trans a6
  cases c55.symm.trans a7
  obtain ⟨j1, j2, j3⟩ := hj
  rcases hr with ⟨rfl, rfl⟩ | ⟨rfl, rfl⟩ | ⟨rfl, rfl⟩ | ⟨rfl, rfl⟩ | ⟨rfl, rfl⟩
  · cases c.symm.trans a1
    exact ⟨upd g j y, gw, gt, gl, gm, fs, x, set_eq' c, (set_ne' (by decide)).trans a2, (set_ne' (by decide)).trans a3, (set_ne' (by decide)).trans a4, (set_ne' (by decide)).trans a5, (set_ne' (by decide)).trans a6, a7, wft_congr (fun t ht k hk => ⟨pk_un (j1 (Or.inl rfl) t k ht hk), rfl⟩) (fun _ _ _ _ => ⟨rfl, rfl⟩) (fun _ _ => rfl) a8⟩
  · cases c.symm.trans a2
    exact ⟨ga, upd g j y, gt, gl, gm, fs, x, (set_ne' (by decide)).trans a1, set_eq' c, (set_ne' (by decide)).trans a3, (set_ne' (by decide)).trans a4, (set_ne' (by decide)).trans a5, (set_ne' (by decide)).trans a6, a7, wft_congr (fun t ht k hk => ⟨rfl, pk_un (j1 (Or.inr rfl) t k ht hk)⟩) (fun _ _ _ _ => ⟨rfl, rfl⟩) (fun _ _ => rfl) a8⟩
  · cases c.symm.trans a3
    exact ⟨ga, gw, upd g j y, gl, gm, fs, x, (set_ne' (by decide)).trans a1, (set_ne' (by decide)).trans a2, set_eq' c, (set_ne' (by decide)).trans a4, (set_ne' (by decide)).trans a5, (set_ne' (by decide)).trans a6, a7, wft_congr (fun _ _ _ _ => ⟨rfl, rfl⟩) (fun t ht k hk => ⟨pk_un (j2 (Or.inl rfl) t k ht hk), rfl⟩) (fun _ _ => rfl) a8⟩
  · cases c.symm.trans a4
    exact ⟨ga, gw, gt, upd g j y, gm, fs, x, (set_ne' (by decide)).trans a1, (set_ne' (by decide)).trans a2, (set_ne' (by decide)).trans a3, set_eq' c, (set_ne' (by decide)).trans a5, (set_ne' (by decide)).trans a6, a7, wft_congr (fun _ _ _ _ => ⟨rfl, rfl⟩) (fun t ht k hk => ⟨rfl, pk_un (j2 (Or.inr rfl) t k ht hk)⟩) (fun _ _ => rfl) a8⟩
  · cases c.symm.trans a5
    exact ⟨ga, gw, gt, gl, upd g j y, fs, x, (set_ne' (by decide)).trans a1, (set_ne' (by decide)).trans a2, (set_ne' (by decide)).trans a3, (set_ne' (by decide)).trans a4, set_eq' c, (set_ne' (by decide)).trans a6, a7, wft_congr (fun _ _ _ _ => ⟨rfl, rfl⟩) (fun _ _ _ _ => ⟨rfl, rfl⟩) (fun t ht => pk_un (j3 rfl t ht)) a8⟩
def PS (σ : List Nat) (h : aH) (hr ft op rw ld tp : Int32) (ga gw gT : Nat → Int32) : Prop := dI σ h ∧ (∃ fs : List Value, h.1[72]? = some (.inr (12, fs)) ∧ fs[64]? = some (.int hr) ∧ fs[65]? = some (.int ft) ∧ fs[66]? = some (.int op) ∧ fs[67]? = some (.int rw) ∧ fs[68]? = some (.int ld) ∧ fs[54]? = some (.int tp) ∧ fs[55]? = some (.int rw)) ∧ h.1[122]? = some (.inl (0, 2890, .inl ga)) ∧ h.1[123]? = some (.inl (0, 2890, .inl gw)) ∧ h.1[115]? = some (.inl (3, 160, .inl gT)) ∧ 0 ≤ rw.toInt ∧ rw.toInt ≤ 15 ∧ 0 ≤ hr.toInt ∧ hr.toInt ≤ tp.toInt ∧ tp.toInt ≤ 160 ∧ 0 ≤ ld.toInt ∧ 0 ≤ op.toInt ∧ op.toInt ≤ 8 ∧ -1 ≤ ft.toInt ∧ ft.toInt ≤ 160
theorem PS_fld {σ : List Nat} {h h2 : aH} {hr ft op rw ld tp x : Int32} {ga gw gT : Nat → Int32} {b : Nat} {fs fs2 : List Value} (P : PS σ h hr ft op rw ld tp ga gw gT) (c : h.1[72]? = some (.inr (12, fs))) (I2 : dI σ h2) (c2 : h2.1[72]? = some (.inr (12, fs2))) (hx : fs2[b]? = some (.int x)) (nf : ∀ i, b ≠ i → fs2[i]? = fs[i]?) (ne : ∀ q, 72 ≠ q → h2.1[q]? = h.1[q]?) :
    (b = 64 → 0 ≤ x.toInt → x.toInt ≤ tp.toInt → PS σ h2 x ft op rw ld tp ga gw gT) ∧ (b = 65 → -1 ≤ x.toInt → x.toInt ≤ 160 → PS σ h2 hr x op rw ld tp ga gw gT) ∧ (b = 66 → 0 ≤ x.toInt → x.toInt ≤ 8 → PS σ h2 hr ft x rw ld tp ga gw gT) ∧ (b = 68 → 0 ≤ x.toInt → PS σ h2 hr ft op rw x tp ga gw gT) := by
  obtain ⟨-, ⟨fs', d, f1, f2, f3, f4, f5, f6, f7⟩, q1, q2, q3, q4, q5, q6, q7, q8, q9, q10, q11, q12, q13⟩ := P
  cases c.symm.trans d
  have r1 := (ne 122 (by decide)).trans q1
  have r2 := (ne 123 (by decide)).trans q2
  have r3 := (ne 115 (by decide)).trans q3
  refine ⟨?_, ?_, ?_, ?_⟩
  · rintro rfl x0 x1
    exact ⟨I2, ⟨fs2, c2, hx, (nf 65 (by decide)).trans f2, (nf 66 (by decide)).trans f3, (nf 67 (by decide)).trans f4, (nf 68 (by decide)).trans f5, (nf 54 (by decide)).trans f6, (nf 55 (by decide)).trans f7⟩, r1, r2, r3, q4, q5, x0, x1, q8, q9, q10, q11, q12, q13⟩
  · rintro rfl x0 x1
    exact ⟨I2, ⟨fs2, c2, (nf 64 (by decide)).trans f1, hx, (nf 66 (by decide)).trans f3, (nf 67 (by decide)).trans f4, (nf 68 (by decide)).trans f5, (nf 54 (by decide)).trans f6, (nf 55 (by decide)).trans f7⟩, r1, r2, r3, q4, q5, q6, q7, q8, q9, q10, q11, x0, x1⟩
  · rintro rfl x0 x1
    exact ⟨I2, ⟨fs2, c2, (nf 64 (by decide)).trans f1, (nf 65 (by decide)).trans f2, hx, (nf 67 (by decide)).trans f4, (nf 68 (by decide)).trans f5, (nf 54 (by decide)).trans f6, (nf 55 (by decide)).trans f7⟩, r1, r2, r3, q4, q5, q6, q7, q8, q9, x0, x1, q12, q13⟩
  · rintro rfl x0
    exact ⟨I2, ⟨fs2, c2, (nf 64 (by decide)).trans f1, (nf 65 (by decide)).trans f2, (nf 66 (by decide)).trans f3, (nf 67 (by decide)).trans f4, hx, (nf 54 (by decide)).trans f6, (nf 55 (by decide)).trans f7⟩, r1, r2, r3, q4, q5, q6, q7, q8, x0, q10, q11, q12, q13⟩
def lkv (hr tp : Int32) (gT : Nat → Int32) : Int32 := if hr.toInt < tp.toInt then gT hr.toInt.toNat else -1
theorem lkv_lt {hr tp : Int32} {gT : Nat → Int32} (h : (lkv hr tp gT).toInt ≠ -1) : hr.toInt < tp.toInt := by
  unfold lkv at h
  split at h
  · assumption
  · exact absurd (show ((-1 : Int32)).toInt = -1 by decide) h
theorem look_wp {X : aX} {σ : List Nat} {h : aH} {hr ft op rw ld tp : Int32} {ga gw gT : Nat → Int32} (P : PS σ h hr ft op rw ld tp ga gw gT) {D : Nat} : Wp X D zM251 (fun v h' => h = h' ∧ v = some (.int (lkv hr tp gT))) 0 [some (.ref 72)] [] h := by
  have P0 := P
  obtain ⟨I, ⟨fs, c72, F64, F65, F66, F67, F68, F54, F55⟩, c122, c123, cT, q4, q5, q6, q7, q8, q9, q10, q11, q12, q13⟩ := P
  refine wp1 (fun n d => r_aloadn f251_0 rfl) ?_
  refine w_get f251_1 c72 F64 ?_
  refine wp1 (fun n d => r_aloadn f251_4 rfl) ?_
  refine w_get f251_5 c72 F54 ?_
  refine w_icmp_ge f251_8 (fun e => ?_) (fun e => ?_)
  · refine w_iconst f251_23 (fun v23 hv23 => ?_)
    refine wp_end (fun n d => r_ireturn f251_24 rfl) ⟨rfl, ?_⟩
    unfold lkv
    rw [if_neg (by omega), b_i.mpr (show v23.toInt = ((-1 : Int32)).toInt by rw [hv23]; decide)]
  · refine wp1 (fun n d => r_aloadn f251_11 rfl) ?_
    have F1001 := hI_r I c72 (f := 53) (q := 115) (by decide +kernel)
    refine w_get f251_12 c72 F1001 ?_
    refine wp1 (fun n d => r_aloadn f251_15 rfl) ?_
    refine w_get f251_16 c72 F64 ?_
    refine w_bald f251_19 cT (by omega) (by omega) (fun v19 hv19 => ?_)
    refine wp1 (fun n d => r_goto f251_20) ?_
    refine wp_end (fun n d => r_ireturn f251_24 rfl) ⟨rfl, ?_⟩
    unfold lkv
    rw [if_pos (by omega), hv19]
theorem wrong_wp {X : aX} {σ : List Nat} {h : aH} {hr ft op rw ld tp : Int32} {ga gw gT : Nat → Int32} (P : PS σ h hr ft op rw ld tp ga gw gT) {D : Nat} : Wp X D zM252 (fun v h' => v = none ∧ dG lWP σ h σ h' ∧ ∃ ft' : Int32, 0 ≤ ft'.toInt ∧ PS σ h' hr ft' op rw ld tp ga gw gT) 0 [some (.ref 72)] [] h := by
  have P0 := P
  obtain ⟨I, ⟨fs, c72, F64, F65, F66, F67, F68, F54, F55⟩, c122, c123, cT, q4, q5, q6, q7, q8, q9, q10, q11, q12, q13⟩ := P
  refine wp1 (fun n d => r_aloadn f252_0 rfl) ?_
  refine w_get f252_1 c72 F65 ?_
  refine w_if_ge f252_4 (fun e => wp_end (fun n d => r_vreturn f252_15 rfl) ⟨rfl, dG_refl _ _ _, ft, e, P0⟩) (fun e => ?_)
  refine wp1 (fun n d => r_aloadn f252_7 rfl) ?_
  refine wp1 (fun n d => r_aloadn f252_8 rfl) ?_
  refine w_get f252_9 c72 F64 ?_
  refine w_putI f252_12 c72 I (W := lWP) (lo := (-1)) (hi := 160) (by decide +kernel) (by decide) (by decide) (by omega) (by omega) (by decide) (by first | rfl | (simp [aok, zY])) (fun h1001 fs1001 I1001 G1001 c1001 Fx1001 nf1001 ne1001 => ?_)
  have c1002 := (ne1001 122 (by decide)).trans c122
  have c1003 := (ne1001 123 (by decide)).trans c123
  have c1004 := (ne1001 115 (by decide)).trans cT
  have F1005 := (nf1001 64 (by decide)).trans F64
  have F1006 := (nf1001 66 (by decide)).trans F66
  have F1007 := (nf1001 67 (by decide)).trans F67
  have F1008 := (nf1001 68 (by decide)).trans F68
  have F1009 := (nf1001 54 (by decide)).trans F54
  have F1010 := (nf1001 55 (by decide)).trans F55
  exact wp_end (fun n d => r_vreturn f252_15 rfl) ⟨rfl, G1001, hr, q6, (PS_fld P0 c72 I1001 c1001 Fx1001 nf1001 ne1001).2.1 rfl (by omega) (by omega)⟩
theorem lay_wp {X : aX} {σ : List Nat} {h : aH} {hr ft op rw ld tp : Int32} {ga gw gT : Nat → Int32} (P : PS σ h hr ft op rw ld tp ga gw gT) {D : Nat} {x1 x2 : Int32} (hl : ld.toInt ≤ 169) : Wp X D zM253 (fun v h' => v = none ∧ dG lWP σ h σ h' ∧ ∃ ld' : Int32, ld'.toInt = ld.toInt + 1 ∧ PS σ h' hr ft op rw ld' tp (upd ga (170 * rw.toInt.toNat + ld.toInt.toNat) x1) (upd gw (170 * rw.toInt.toNat + ld.toInt.toNat) x2) gT) 0 [some (.ref 72), some (.int x1), some (.int x2)] [] h := by
  have P0 := P
  obtain ⟨I, ⟨fs, c72, F64, F65, F66, F67, F68, F54, F55⟩, c122, c123, cT, q4, q5, q6, q7, q8, q9, q10, q11, q12, q13⟩ := P
  refine wp1 (fun n d => r_aloadn f253_0 rfl) ?_
  have F1001 := hI_r I c72 (f := 62) (q := 122) (by decide +kernel)
  refine w_get f253_1 c72 F1001 ?_
  refine w_sipush f253_4 (fun v4 hv4 => ?_)
  refine wp1 (fun n d => r_aloadn f253_7 rfl) ?_
  refine w_get f253_8 c72 F67 ?_
  refine w_imul f253_11 (by rw [hv4]; omega) (by rw [hv4]; omega) (fun v11 hv11 => ?_)
  rw [hv4] at hv11
  refine wp1 (fun n d => r_aloadn f253_12 rfl) ?_
  refine w_get f253_13 c72 F68 ?_
  refine w_iadd f253_16 (by omega) (by omega) (fun v16 hv16 => ?_)
  refine wp1 (fun n d => r_iloadn f253_17 rfl) ?_
  obtain ⟨Ia, Ga⟩ := hI_txt I (W := lWP) (by decide) (r := 122) (n := 2890) (j := v16.toInt.toNat) (y := x1) (by omega) c72 F55 c122 ⟨fun _ t k ht hk => by omega, fun _ t k ht hk => by omega, fun e => by omega⟩
  refine w_iast f253_18 c122 (by omega) (by omega) ?_
  have c72a : ((h.1.set 122 (.inl (0, 2890, .inl (upd ga v16.toInt.toNat x1))), h.2) : aH).1[72]? = some (.inr (12, fs)) := (set_ne' (by decide)).trans c72
  have c122a : ((h.1.set 122 (.inl (0, 2890, .inl (upd ga v16.toInt.toNat x1))), h.2) : aH).1[122]? = some (.inl (0, 2890, .inl (upd ga v16.toInt.toNat x1))) := set_eq' c122
  have c123a : ((h.1.set 122 (.inl (0, 2890, .inl (upd ga v16.toInt.toNat x1))), h.2) : aH).1[123]? = some (.inl (0, 2890, .inl gw)) := (set_ne' (by decide)).trans c123
  have cTa : ((h.1.set 122 (.inl (0, 2890, .inl (upd ga v16.toInt.toNat x1))), h.2) : aH).1[115]? = some (.inl (3, 160, .inl gT)) := (set_ne' (by decide)).trans cT
  generalize ((h.1.set 122 (.inl (0, 2890, .inl (upd ga v16.toInt.toNat x1))), h.2) : aH) = ha at Ia Ga c72a c122a c123a cTa ⊢
  refine wp1 (fun n d => r_aloadn f253_19 rfl) ?_
  have F1002 := hI_r Ia c72a (f := 63) (q := 123) (by decide +kernel)
  refine w_get f253_20 c72a F1002 ?_
  refine w_sipush f253_23 (fun v23 hv23 => ?_)
  refine wp1 (fun n d => r_aloadn f253_26 rfl) ?_
  refine w_get f253_27 c72a F67 ?_
  refine w_imul f253_30 (by rw [hv23]; omega) (by rw [hv23]; omega) (fun v30 hv30 => ?_)
  rw [hv23] at hv30
  refine wp1 (fun n d => r_aloadn f253_31 rfl) ?_
  refine w_get f253_32 c72a F68 ?_
  refine w_iadd f253_35 (by omega) (by omega) (fun v35 hv35 => ?_)
  refine wp1 (fun n d => r_iloadn f253_36 rfl) ?_
  obtain ⟨Ib, Gb⟩ := hI_txt Ia (W := lWP) (by decide) (r := 123) (n := 2890) (j := v35.toInt.toNat) (y := x2) (by omega) c72a F55 c123a ⟨fun _ t k ht hk => by omega, fun _ t k ht hk => by omega, fun e => by omega⟩
  refine w_iast f253_37 c123a (by omega) (by omega) ?_
  have c72b : ((ha.1.set 123 (.inl (0, 2890, .inl (upd gw v35.toInt.toNat x2))), ha.2) : aH).1[72]? = some (.inr (12, fs)) := (set_ne' (by decide)).trans c72a
  have c122b : ((ha.1.set 123 (.inl (0, 2890, .inl (upd gw v35.toInt.toNat x2))), ha.2) : aH).1[122]? = some (.inl (0, 2890, .inl (upd ga v16.toInt.toNat x1))) := (set_ne' (by decide)).trans c122a
  have c123b : ((ha.1.set 123 (.inl (0, 2890, .inl (upd gw v35.toInt.toNat x2))), ha.2) : aH).1[123]? = some (.inl (0, 2890, .inl (upd gw v35.toInt.toNat x2))) := set_eq' c123a
  have cTb : ((ha.1.set 123 (.inl (0, 2890, .inl (upd gw v35.toInt.toNat x2))), ha.2) : aH).1[115]? = some (.inl (3, 160, .inl gT)) := (set_ne' (by decide)).trans cTa
  generalize ((ha.1.set 123 (.inl (0, 2890, .inl (upd gw v35.toInt.toNat x2))), ha.2) : aH) = hb at Ib Gb c72b c122b c123b cTb ⊢
  have e16 : v16.toInt.toNat = 170 * rw.toInt.toNat + ld.toInt.toNat := by omega
  have e35 : v35.toInt.toNat = 170 * rw.toInt.toNat + ld.toInt.toNat := by omega
  rw [e16] at c122b
  rw [e35] at c123b
  have Pb : PS σ hb hr ft op rw ld tp (upd ga (170 * rw.toInt.toNat + ld.toInt.toNat) x1) (upd gw (170 * rw.toInt.toNat + ld.toInt.toNat) x2) gT := ⟨Ib, ⟨fs, c72b, F64, F65, F66, F67, F68, F54, F55⟩, c122b, c123b, cTb, q4, q5, q6, q7, q8, q9, q10, q11, q12, q13⟩
  refine wp1 (fun n d => r_aloadn f253_38 rfl) ?_
  refine wp1 (fun n d => r_dup f253_39 rfl) ?_
  refine w_get f253_40 c72b F68 ?_
  refine w_iconst f253_43 (fun v43 hv43 => ?_)
  refine w_iadd f253_44 (by omega) (by omega) (fun v44 hv44 => ?_)
  refine w_putI f253_45 c72b Ib (W := lWP) (lo := 0) (hi := 170) (by decide +kernel) (by decide) (by decide) (by omega) (by omega) (by decide) (by first | rfl | (simp [aok, zY])) (fun h1003 fs1003 I1003 G1003 c1003 Fx1003 nf1003 ne1003 => ?_)
  have F1004 := (nf1003 64 (by decide)).trans F64
  have F1005 := (nf1003 65 (by decide)).trans F65
  have F1006 := (nf1003 66 (by decide)).trans F66
  have F1007 := (nf1003 67 (by decide)).trans F67
  have F1008 := (nf1003 54 (by decide)).trans F54
  have F1009 := (nf1003 55 (by decide)).trans F55
  have F1010 := (nf1003 62 (by decide)).trans F1001
  have F1011 := (nf1003 63 (by decide)).trans F1002
  exact wp_end (fun n d => r_vreturn f253_48 rfl) ⟨rfl, dG_trans (dG_trans Ga Gb) G1003, v44, hv44.trans (by omega), (PS_fld Pb c72b I1003 c1003 Fx1003 nf1003 ne1003).2.2.2 rfl (by omega)⟩
theorem opens_wp {X : aX} {σ : List Nat} {h : aH} {hr ft op rw ld tp : Int32} {ga gw gT : Nat → Int32} (P : PS σ h hr ft op rw ld tp ga gw gT) {D : Nat} (hD : 1 ≤ D) (ht : hr.toInt < tp.toInt) : Wp X D zM254 (fun v h' => dG lWP σ h σ h' ∧ ((∃ r ft' : Int32, v = some (.int r) ∧ r.toInt = 0 ∧ 0 ≤ ft'.toInt ∧ PS σ h' hr ft' op rw ld tp ga gw gT) ∨ (∃ r hr' op' : Int32, v = some (.int r) ∧ r.toInt = 1 ∧ hr'.toInt = hr.toInt + 1 ∧ op'.toInt = op.toInt + 1 ∧ op.toInt < 8 ∧ PS σ h' hr' ft op' rw ld tp ga gw gT))) 0 [some (.ref 72)] [] h := by
  have P0 := P
  obtain ⟨I, ⟨fs, c72, F64, F65, F66, F67, F68, F54, F55⟩, c122, c123, cT, q4, q5, q6, q7, q8, q9, q10, q11, q12, q13⟩ := P
  refine wp1 (fun n d => r_aloadn f254_0 rfl) ?_
  refine w_get f254_1 c72 F66 ?_
  refine w_bipush f254_4 (fun v4 hv4 => ?_)
  refine w_icmp_ne f254_6 (fun e => ?_) (fun e => ?_)
  rotate_left
  · refine wp1 (fun n d => r_aloadn f254_9 rfl) ?_
    refine wp_in (lv := 0) (Y := zM252) (wrong_wp P0) (fun n d v h' e => r_virt (as := []) (r := []) f254_10 c72 (show zmt[252]? = some zM252 from rfl) rfl rfl rfl rfl rfl rfl e) (by omega) ?_
    rintro v h1 ⟨rfl, G1, ft', f0, P1⟩
    refine w_iconst f254_13 (fun v13 hv13 => ?_)
    exact wp_end (fun n d => r_zreturn f254_14 rfl (Or.inl (b_i.mpr hv13))) ⟨G1, Or.inl ⟨v13, ft', rfl, hv13, f0, P1⟩⟩
  refine wp1 (fun n d => r_aloadn f254_15 rfl) ?_
  refine wp1 (fun n d => r_dup f254_16 rfl) ?_
  refine w_get f254_17 c72 F66 ?_
  refine w_iconst f254_20 (fun v20 hv20 => ?_)
  refine w_iadd f254_21 (by omega) (by omega) (fun v21 hv21 => ?_)
  refine w_putI f254_22 c72 I (W := lWP) (lo := 0) (hi := 8) (by decide +kernel) (by decide) (by decide) (by omega) (by omega) (by decide) (by first | rfl | (simp [aok, zY])) (fun h1001 fs1001 I1001 G1001 c1001 Fx1001 nf1001 ne1001 => ?_)
  have c1002 := (ne1001 122 (by decide)).trans c122
  have c1003 := (ne1001 123 (by decide)).trans c123
  have c1004 := (ne1001 115 (by decide)).trans cT
  have F1005 := (nf1001 64 (by decide)).trans F64
  have F1006 := (nf1001 65 (by decide)).trans F65
  have F1007 := (nf1001 67 (by decide)).trans F67
  have F1008 := (nf1001 68 (by decide)).trans F68
  have F1009 := (nf1001 54 (by decide)).trans F54
  have F1010 := (nf1001 55 (by decide)).trans F55
  have Pa := (PS_fld P0 c72 I1001 c1001 Fx1001 nf1001 ne1001).2.2.1 rfl (by omega) (by omega)
  refine wp1 (fun n d => r_aloadn f254_25 rfl) ?_
  refine wp1 (fun n d => r_dup f254_26 rfl) ?_
  refine w_get f254_27 c1001 F1005 ?_
  refine w_iconst f254_30 (fun v30 hv30 => ?_)
  refine w_iadd f254_31 (by omega) (by omega) (fun v31 hv31 => ?_)
  refine w_putI f254_32 c1001 I1001 (W := lWP) (lo := 0) (hi := 160) (by decide +kernel) (by decide) (by decide) (by omega) (by omega) (by decide) (by first | rfl | (simp [aok, zY])) (fun h1011 fs1011 I1011 G1011 c1011 Fx1011 nf1011 ne1011 => ?_)
  have c1012 := (ne1011 122 (by decide)).trans c1002
  have c1013 := (ne1011 123 (by decide)).trans c1003
  have c1014 := (ne1011 115 (by decide)).trans c1004
  have F1015 := (nf1011 65 (by decide)).trans F1006
  have F1016 := (nf1011 66 (by decide)).trans Fx1001
  have F1017 := (nf1011 67 (by decide)).trans F1007
  have F1018 := (nf1011 68 (by decide)).trans F1008
  have F1019 := (nf1011 54 (by decide)).trans F1009
  have F1020 := (nf1011 55 (by decide)).trans F1010
  have Pb := (PS_fld Pa c1001 I1011 c1011 Fx1011 nf1011 ne1011).1 rfl (by omega) (by omega)
  refine w_iconst f254_35 (fun v35 hv35 => ?_)
  exact wp_end (fun n d => r_zreturn f254_36 rfl (Or.inr (b_i.mpr hv35))) ⟨(dG_trans G1001 G1011), Or.inr ⟨v35, v31, v21, rfl, hv35, by omega, by omega, by omega, Pb⟩⟩
theorem w_here {X : aX} {σ : List Nat} {h : aH} {hr ft op rw ld tp : Int32} {ga gw gT : Nat → Int32} (P : PS σ h hr ft op rw ld tp ga gw gT) {D : Nat} {M : aM} {Q : Option Value → aH → Prop} {pc i1 i2 : Nat} {L : aL} {r : List Value} (ht : hr.toInt < tp.toInt) (hL : aG L 0 = some (.ref 72)) (f0 : aF pc M.2.2.2.2.2.2.2 = some (pc, (.aload_n 0), 1, 0, 0)) (f1 : aF (pc + 1) M.2.2.2.2.2.2.2 = some (pc + 1, .dup, 1, 0, 0)) (f2 : aF (pc + 2) M.2.2.2.2.2.2.2 = some (pc + 2, (.getfield i1), 3, 12, 64)) (f3 : aF (pc + 5) M.2.2.2.2.2.2.2 = some (pc + 5, (.iconst 1), 1, 0, 0)) (f4 : aF (pc + 6) M.2.2.2.2.2.2.2 = some (pc + 6, .iadd, 1, 0, 0)) (f5 : aF (pc + 7) M.2.2.2.2.2.2.2 = some (pc + 7, (.putfield i2), 3, 12, 64))
    (kk : ∀ (h2 : aH) (hr2 : Int32), hr2.toInt = hr.toInt + 1 → dG lWP σ h σ h2 → PS σ h2 hr2 ft op rw ld tp ga gw gT → Wp X D M Q (pc + 10) L r h2) : Wp X D M Q pc L r h := by
  have P0 := P
  obtain ⟨I, ⟨fs, c72, F64, F65, F66, F67, F68, F54, F55⟩, c122, c123, cT, q4, q5, q6, q7, q8, q9, q10, q11, q12, q13⟩ := P
  refine wp1 (fun n d => r_aloadn f0 hL) ?_
  refine wp1 (fun n d => r_dup f1 rfl) ?_
  refine w_get f2 c72 F64 ?_
  refine w_iconst f3 (fun v hv => ?_)
  refine w_iadd f4 (by omega) (by omega) (fun z hz => ?_)
  refine w_putI f5 c72 I (W := lWP) (lo := 0) (hi := 160) (by decide +kernel) (by decide) (by decide) (by omega) (by omega) (by decide) rfl (fun h2 fs2 I2 G2 c2 Fx nf ne => ?_)
  exact kk h2 z (by omega) G2 ((PS_fld P0 c72 I2 c2 Fx nf ne).1 rfl (by omega) (by omega))
theorem w_opdec {X : aX} {σ : List Nat} {h : aH} {hr ft op rw ld tp : Int32} {ga gw gT : Nat → Int32} (P : PS σ h hr ft op rw ld tp ga gw gT) {D : Nat} {M : aM} {Q : Option Value → aH → Prop} {pc i1 i2 : Nat} {L : aL} {r : List Value} (ho : 1 ≤ op.toInt) (hL : aG L 0 = some (.ref 72)) (f0 : aF pc M.2.2.2.2.2.2.2 = some (pc, (.aload_n 0), 1, 0, 0)) (f1 : aF (pc + 1) M.2.2.2.2.2.2.2 = some (pc + 1, .dup, 1, 0, 0)) (f2 : aF (pc + 2) M.2.2.2.2.2.2.2 = some (pc + 2, (.getfield i1), 3, 12, 66)) (f3 : aF (pc + 5) M.2.2.2.2.2.2.2 = some (pc + 5, (.iconst 1), 1, 0, 0)) (f4 : aF (pc + 6) M.2.2.2.2.2.2.2 = some (pc + 6, .isub, 1, 0, 0)) (f5 : aF (pc + 7) M.2.2.2.2.2.2.2 = some (pc + 7, (.putfield i2), 3, 12, 66))
    (kk : ∀ (h2 : aH) (op2 : Int32), op2.toInt = op.toInt - 1 → dG lWP σ h σ h2 → PS σ h2 hr ft op2 rw ld tp ga gw gT → Wp X D M Q (pc + 10) L r h2) : Wp X D M Q pc L r h := by
  have P0 := P
  obtain ⟨I, ⟨fs, c72, F64, F65, F66, F67, F68, F54, F55⟩, c122, c123, cT, q4, q5, q6, q7, q8, q9, q10, q11, q12, q13⟩ := P
  refine wp1 (fun n d => r_aloadn f0 hL) ?_
  refine wp1 (fun n d => r_dup f1 rfl) ?_
  refine w_get f2 c72 F66 ?_
  refine w_iconst f3 (fun v hv => ?_)
  refine w_isub f4 (by omega) (by omega) (fun z hz => ?_)
  refine w_putI f5 c72 I (W := lWP) (lo := 0) (hi := 8) (by decide +kernel) (by decide) (by decide) (by omega) (by omega) (by decide) rfl (fun h2 fs2 I2 G2 c2 Fx nf ne => ?_)
  exact kk h2 z (by omega) G2 ((PS_fld P0 c72 I2 c2 Fx nf ne).2.2.1 rfl (by omega) (by omega))
end

-- ===== what our machine does, the machine does: whole methods =====
def aQ (D : va_G) (cA : Nat → ClassId) (ea : Nat → Nat) (b0 : Nat) (v : Option Value) (h' : aH) : Array Value → State → Outcome → State → Prop := fun _ st oc t =>
  oc = .returned (v.map (acv b0 ea)) ∧ va_P D zCl (awd b0 ea cA h'.1) t.heap ∧ st.heap.size ≤ t.heap.size ∧ ∀ q : Nat, q < st.heap.size → ¬ b0 ≤ q → t.heap[q]? = st.heap[q]?
def aPc (D : va_G) (cA : Nat → ClassId) (ea : Nat → Nat) (b0 : Nat) (X : aX) (as : List Value) (h : aH) : Array Value → State → Prop :=
  va_Pc (as.map (acv b0 ea)) (fun U => U.heap.size = b0 + h.1.length ∧ va_P D zCl (awd b0 ea cA h.1) U.heap ∧ aKX D cA ea b0 X U)
def aWs (M : aM) : List Cond := Cond.code M.2.1 M.2.2.1 M.2.2.2.1 M.2.2.2.2.1 :: zW
def aRoom (d k n : Nat) : Room := { frames := d, cells := k, slots := n, locals := 41 * d }
def aMet (l : Launch) (D : va_G) (cA : Nat → ClassId) (ea : Nat → Nat) (b0 : Nat) (X : aX) (d : Nat) (Y : aM) (as : List Value) (h : aH) (v : Option Value) (h' : aH) : Prop :=
  Met l Y.2.1 (aWs Y) (aRoom d (h'.1.length - h.1.length) (h'.2 - h.2)) (aPc D cA ea b0 X as h) (aQ D cA ea b0 v h') (h'.1.length - h.1.length) (h'.2 - h.2) (fun q => b0 ≤ q)
theorem aPc_blind {D : va_G} {cA : Nat → ClassId} {ea : Nat → Nat} {b0 : Nat} {X : aX} {as : List Value} {h : aH} : FrameBlind (aPc D cA ea b0 X as h) := fun a U g mk q =>
  ⟨q.1, q.2.1, q.2.2.1, aKX_go (U := U.calling g mk a) q.2.2.2 (State.WarmedH.refl U) (fun _ _ _ => rfl)⟩
theorem aH_sz {D : va_G} {cA : Nat → ClassId} {ea : Nat → Nat} {b0 n0 cells : Nat} {σ : List aC} {H : Heap} (hP : va_P D zCl (awd b0 ea cA σ) H) (h1 : b0 + n0 ≤ H.size) (h2 : H.size ≤ b0 + n0 + cells) (e1 : n0 + cells = σ.length) : H.size = b0 + σ.length := by
  by_cases hz : σ.length = 0
  · omega
  · have hlt : σ.length - 1 < σ.length := by omega
    have h3 := (hP (σ.length - 1) _ (awd_get (List.getElem?_eq_getElem hlt))).lt
    dsimp only at h3
    omega
theorem aws_map {b0 : Nat} {ea : Nat → Nat} : ∀ (r : List Value), ((r.map (acv b0 ea)).map fun v => v.category).sum = aws r
  | [] => rfl
  | v :: r => by
    simp only [List.map_cons, List.sum_cons, aws, acv_cat]
    rw [aws_map r]
theorem aW_back {p : Program} {l : Launch} {e : Env} {R : Room} {s : State} {m : MethodId} {args : Array Value} {below : List Frame} {meth : Method} {c : Code} {H : Heap} {locs : List Loc} {cells slots mc ms : Nat} {Q : State → Prop} {pc : Nat} {ls : Array Slot} {st0 r : List Value} {v : Option Value} {h1 : aH} {D : va_G} {cA : Nat → ClassId} {ea : Nat → Nat} {b0 n0 u0 nL : Nat} {L : aL} {a : Array Value}
    (hr : va_Run p l e R s m args below meth c H locs cells slots mc ms (F0 m pc ls st0) (r.map (acv b0 ea)) (aQ D cA ea b0 v h1 a) (fun q => b0 ≤ q)) (hS : va_S (fun q => b0 ≤ q) s.heap H locs) (hl : alR b0 ea ls nL L) (e1 : n0 + (cells + mc) = h1.1.length) (e2 : u0 + (slots + ms) = h1.2)
    (kk : ∀ (H : Heap) (locs : List Loc) (ls : Array Slot) (cells slots : Nat), n0 + cells = h1.1.length → u0 + slots = h1.2 → va_P D zCl (awd b0 ea cA h1.1) H → va_S (fun q => b0 ≤ q) s.heap H locs → alR b0 ea ls nL L → W p l e R s m args below meth c H locs cells slots Q (F0 m (pc + 3) ls ((v.toList ++ r).map (acv b0 ea)))) :
    W p l e R s m args below meth c H locs cells slots Q (F0 m pc ls st0) := by
  intro T hT X
  obtain ⟨v', st₀, t, T', L', h0, X', hL, g1, g2, ⟨hv, hP1, hz, hk⟩, st⟩ := hr T hT X
  have hv : v' = v.map (acv b0 ea) := by cases hv; rfl
  subst hv
  rw [h0] at hz hk
  rw [← g1] at hP1 hz hk
  obtain ⟨t2, a1, b1⟩ := kk T'.heap (locs ++ L') ls (cells + mc) (slots + ms) e1 e2 hP1
    ⟨Nat.le_trans hS.1 hz, fun q h1 h2 => (hk q (Nat.lt_of_lt_of_le h1 hS.1) h2).trans (hS.2.1 q h1 h2), fun q hq => by
      rcases List.mem_append.mp hq with h | h
      · exact hS.2.2 q h
      · exact hL q h⟩ hl T' rfl X'
  refine ⟨t2, st t2 ?_, b1⟩
  have e : (v.toList ++ r).map (acv b0 ea) = (v.map (acv b0 ea)).toList ++ r.map (acv b0 ea) := by cases v <;> simp
  rw [e] at a1
  exact a1
theorem gW {ws : List Cond} (h : ∀ w ∈ ws, w ∈ zW) : GoodIn zW ws := fun w hw => ⟨h w hw, good_of_word (zW_good w (h w hw))⟩
theorem gWs {M : aM} (h : zMok M) : ∀ w ∈ aWs M, w ∈ zW := by
  intro w hw
  rcases List.mem_cons.mp hw with rfl | hw
  · exact h.2.1
  · exact hw
theorem z_link {X : aX} {D : va_G} {cA : Nat → ClassId} {ea : Nat → Nat} {b0 o ix a : Nat} {s : State} {y : MethodName} (h : zmcp.any (fun q => Nat.beq q.1 o && Nat.beq q.2.1 ix && Nat.beq q.2.2.1 a) = true) (ha : a ≤ 1000) (hY : zyn a = y) (hK : aKX D cA ea b0 X s) :
    Cond.methodLink (zCN o) ix y ∈ zW ∨ va_Nw (.methodLinkNest (zCN o) ix y "AcresPaid") s := by
  obtain ⟨q, hq, hh⟩ := List.any_eq_true.mp h
  simp only [Bool.and_eq_true, Nat.beq_eq] at hh
  obtain ⟨⟨rfl, rfl⟩, rfl⟩ := hh
  subst hY
  have h1 := List.all_eq_true.mp zmcp_ok q hq
  rcases (Bool.or_eq_true _ _).mp h1 with h2 | h2
  · exfalso
    simp only [Bool.or_eq_true, Nat.beq_eq] at h2
    omega
  · by_cases hn : q.2.2.2.1 = 0
    · rw [if_pos hn] at h2
      exact Or.inl (zTab_mem h2)
    · exact Or.inr (hK.2.2.2.1 q hq hn ha)
theorem zmt_lt {a : Nat} {Y : aM} (h : zmt[a]? = some Y) : a ≤ 1000 := by
  have h1 := (List.getElem?_eq_some_iff.mp h).1
  have h2 : zmt.length ≤ 1000 := by decide +kernel
  omega
theorem zyn_of {a : Nat} {Y : aM} (h : zmt[a]? = some Y) : zyn a = Y.2.1 := by
  unfold zyn
  rw [h]
theorem zMok_d {Y : aM} (h : zMok Y) : plainName Y.2.1.cls = true ∧ Y.2.1.cls ≠ "java/lang/invoke/MethodHandle" ∧ Y.2.1.cls ≠ "java/lang/invoke/VarHandle" ∧ (parseMethodDescriptor Y.2.1.desc).map (fun d => d.parameters.length) = some Y.2.2.2.2.2.1 ∧ zCN Y.1 = Y.2.1.cls ∧ Y.2.2.2.1 ≤ 22 ∧ (Y.2.2.2.2.2.2.1 = 2 → Y.2.1.name = "<init>" ∧ Y.2.2.2.2.1 = none) := by
  have h1 := h.2.2.2.2.2
  simp only [Bool.and_eq_true, decide_eq_true_eq] at h1
  obtain ⟨⟨⟨⟨⟨⟨a, b⟩, c⟩, d⟩, e⟩, f⟩, g⟩ := h1
  exact ⟨a, b, c, d, e, f, g⟩
theorem acut_some {n : Nat} {st : List Value} {f : List Value → List Value → Option aR} {res : aR} (h : acut n st f = some res) : ∃ as r, st = as.reverse ++ r ∧ as.length = n ∧ f as r = some res := by
  obtain ⟨h1, h2⟩ := abif h
  have h1 := Nat.le_of_ble_eq_true h1
  refine ⟨_, _, ?_, ?_, h2⟩
  · rw [List.reverse_reverse, List.take_append_drop]
  · rw [List.length_reverse, List.length_take]
    omega
theorem aback_some {d : Nat} {r : List Value} {callee : Nat → Option aR} {k : List Value → aH → Option aR} {res : aR} (h : aback d r callee k = some res) : ∃ d' v h1, d = d' + 1 ∧ aws r ≤ 8 ∧ callee d' = some (v, h1) ∧ k (v.toList ++ r) h1 = some res := by
  unfold aback at h
  split at h
  · cases h
  · obtain ⟨h1, h2⟩ := abif h
    split at h2
    · rename_i q hq
      exact ⟨_, q.1, q.2, rfl, Nat.le_of_ble_eq_true h1, hq, h2⟩
    · cases h2
theorem aent_some {Y : aM} {as : List Value} {f : Unit → Option aR} {res : aR} (h : aent Y as f = some res) : aws as ≤ Y.2.2.2.1 ∧ f () = some res := by
  obtain ⟨h1, h2⟩ := abif h
  exact ⟨Nat.le_of_ble_eq_true h1, h2⟩
def aRm (Γ : aGm) (d : Nat) (h : aH) : Prop := match Γ with
  | (p, l, e, R, s, m, args, below, meth, c, Q, cc, nL, b0, n0, u0, own, kind, D, cA, ea, X) => (h.1.length ≤ n0 + R.cells ∧ h.2 ≤ u0 + R.slots) ∧ d ≤ R.frames ∧ 41 * d ≤ R.locals
def aMG (Γ : aGm) (d : Nat) (Y : aM) (as : List Value) (h : aH) (v : Option Value) (h' : aH) : Prop := match Γ with
  | (p, l, e, R, s, m, args, below, meth, c, Q, cc, nL, b0, n0, u0, own, kind, D, cA, ea, X) => aMet l D cA ea b0 X d Y as h v h'
theorem s_stat {Γ : aGm} {pc ix a d' : Nat} {L : aL} {as r : List Value} {h h1 h' : aH} {v : Option Value} {Y : aM} (hY : zmt[a]? = some Y) (hok : zMok Y) (hk1 : Y.2.2.2.2.2.2.1 = 1) (hc : zmcp.any (fun q => Nat.beq q.1 (aown Γ) && Nat.beq q.2.1 ix && Nat.beq q.2.2.1 a) = true) (hn : as.length = Y.2.2.2.2.2.1) (hr8 : aws r ≤ 8)
    (hM : aMG Γ d' Y as h v h1) (g1 : h.1.length ≤ h1.1.length ∧ h.2 ≤ h1.2) (g2 : h1.1.length ≤ h'.1.length ∧ h1.2 ≤ h'.2) (hR : aRm Γ (d' + 1) h') (C : aCF Γ) (hd : aDC Γ pc (.invokestatic ix) 3) (k : aSW Γ (pc + 3) L (v.toList ++ r) h1) : aSW Γ pc L (as.reverse ++ r) h := by
  obtain ⟨p, l, e, R, s, m, args, below, meth, c, Q, cc, nL, b0, n0, u0, own, kind, D, cA, ea, X⟩ := Γ
  intro H locs ls cells slots e1 e2 hP hS hl
  obtain ⟨hx, hb, hml, hown, hts, hKX, hsz, hki⟩ := C
  obtain ⟨⟨hR1, hR2⟩, hR3, hR4⟩ := hR
  obtain ⟨-, d1, d2, d3, d4, d5, -⟩ := zMok_d hok
  have hst : Cond.static Y.2.1 ∈ zW := by have := hok.2.2.2.1; rw [if_pos hk1] at this; exact this
  refine aW_sz (fun hz => ?_)
  have hsH : H.size = b0 + h.1.length := aH_sz (n0 := n0) hP (by have := hS.1; rw [hsz] at this; exact this) (by rw [hsz] at hz; exact hz) e1
  have hpre : PreS s H (aPc D cA ea b0 X as h) (as.map (acv b0 ea)) := ⟨aPc_blind, fun U hU hW => ⟨rfl, by rw [hU]; exact hsH, by rw [hU]; exact hP, aKX_go hKX hW (fun q q1 q2 => by rw [hU]; exact hS.2.1 q q1 q2)⟩⟩
  have hst2 : (as.reverse ++ r).map (acv b0 ea) = (as.map (acv b0 ea)).reverse ++ r.map (acv b0 ea) := by simp
  have hrun : va_Run p l e R s m args below meth c H locs cells slots (h1.1.length - h.1.length) (h1.2 - h.2) (F0 m pc ls ((as.reverse ++ r).map (acv b0 ea))) (r.map (acv b0 ea)) (aQ D cA ea b0 v h1 (as.map (acv b0 ea)).toArray) (fun q => b0 ≤ q) := by
    rcases z_link hc (zmt_lt hY) (zyn_of hY) hKX with hlk | hlk
    · exact va_runS ⟨hx, hb, hml, hown, hts⟩ hM (va_cwS Y.2.2.2.2.2.1 hts (gW (fun w hw => by
        simp only [va_wsS, List.cons_append, List.nil_append, List.mem_cons] at hw
        rcases hw with rfl | rfl | rfl | hw
        · exact hlk
        · exact hst
        · exact hok.2.2.1
        · exact gWs hok w hw)) rfl rfl rfl ⟨d1, d2, d3⟩ ⟨hR3, by show 8 + (Y.2.2.2.1 + 11) + 41 * d' ≤ R.locals; omega⟩) hpre rfl (by rw [List.length_map]; exact hn) hl.2.1 hst2 (lv_room (by rw [aws_map]; exact hr8)) hd ⟨by omega, by omega⟩
    · exact va_runSN ⟨hx, hb, hml, hown, hts⟩ hM ⟨va_cnB Y.2.2.2.2.2.1 hts (gW (gWs hok)) rfl rfl rfl hlk (hts _ hok.2.2.1) ⟨d1, d2, d3⟩ ⟨hR3, by show 8 + (Y.2.2.2.1 + 11) + 41 * d' ≤ R.locals; omega⟩, hts _ hst, trivial⟩ hpre rfl (by rw [List.length_map]; exact hn) hl.2.1 hst2 (lv_room (by rw [aws_map]; exact hr8)) hd ⟨by omega, by omega⟩
  exact aW_back hrun hS hl (by omega) (by omega) k
theorem s_virt {Γ : aGm} {pc ix a d' o : Nat} {L : aL} {as r : List Value} {h h1 h' : aH} {v : Option Value} {Y : aM} {fs : List Value} (hY : zmt[a]? = some Y) (hok : zMok Y) (hk1 : Y.2.2.2.2.2.2.1 = 0) (hc : zmcp.any (fun q => Nat.beq q.1 (aown Γ) && Nat.beq q.2.1 ix && Nat.beq q.2.2.1 a && Nat.beq q.2.2.2.1 0) = true) (hn : as.length = Y.2.2.2.2.2.1) (hr8 : aws r ≤ 8)
    (ho : h.1[o]? = some (.inr (Y.1, fs))) (ho13 : Y.1 < 13) (hM : aMG Γ d' Y (.ref o :: as) h v h1) (g1 : h.1.length ≤ h1.1.length ∧ h.2 ≤ h1.2) (g2 : h1.1.length ≤ h'.1.length ∧ h1.2 ≤ h'.2) (hR : aRm Γ (d' + 1) h') (C : aCF Γ) (hd : aDC Γ pc (.invokevirtual ix) 3) (k : aSW Γ (pc + 3) L (v.toList ++ r) h1) : aSW Γ pc L (as.reverse ++ .ref o :: r) h := by
  obtain ⟨p, l, e, R, s, m, args, below, meth, c, Q, cc, nL, b0, n0, u0, own, kind, D, cA, ea, X⟩ := Γ
  intro H locs ls cells slots e1 e2 hP hS hl
  obtain ⟨hx, hb, hml, hown, hts, hKX, hsz, hki⟩ := C
  obtain ⟨⟨hR1, hR2⟩, hR3, hR4⟩ := hR
  obtain ⟨-, d1, d2, d3, d4, d5, -⟩ := zMok_d hok
  have hst : Cond.instanceMethod Y.2.1 ∈ zW := by have := hok.2.2.2.1; rw [if_neg (by omega)] at this; exact this
  have hse : Cond.selects Y.2.1.cls Y.2.1 Y.2.1 ∈ zW := hok.2.2.2.2.1 hk1
  refine aW_sz (fun hz => ?_)
  have hsH : H.size = b0 + h.1.length := aH_sz (n0 := n0) hP (by have := hS.1; rw [hsz] at this; exact this) (by rw [hsz] at hz; exact hz) e1
  have hlk : Cond.methodLink (zCN own) ix Y.2.1 ∈ zW := by
    obtain ⟨q, hq, hh⟩ := List.any_eq_true.mp hc
    simp only [Bool.and_eq_true, Nat.beq_eq] at hh
    obtain ⟨⟨⟨q1, q2⟩, q3⟩, q4⟩ := hh
    have h1 := List.all_eq_true.mp zmcp_ok q hq
    unfold zmcpW at h1
    rw [if_pos q4] at h1
    rcases (Bool.or_eq_true _ _).mp h1 with h2 | h2
    · exfalso
      simp only [Bool.or_eq_true, Nat.beq_eq] at h2
      have := zmt_lt hY
      omega
    · have h3 := zTab_mem h2
      rw [q1, q2, q3, zyn_of hY] at h3
      exact h3
  have hpre : PreV s H Y.2.1.cls (b0 + o) (aPc D cA ea b0 X (.ref o :: as) h) (as.map (acv b0 ea)) :=
    ⟨aPc_blind, by rw [← d4]; exact va_recv (q := (zCN Y.1, zT Y.1, zN Y.1)) hKX.1 hP (zCl_get ho13) (show (awd b0 ea cA h.1)[o]? = some (b0 + o, .inr (Y.1, fs.map (acv b0 ea))) from awd_get ho), fun U hU hW => ⟨rfl, by rw [hU]; exact hsH, by rw [hU]; exact hP, aKX_go hKX hW (fun q q1 q2 => by rw [hU]; exact hS.2.1 q q1 q2)⟩⟩
  have hst2 : (as.reverse ++ .ref o :: r).map (acv b0 ea) = (as.map (acv b0 ea)).reverse ++ .ref (b0 + o) :: r.map (acv b0 ea) := by simp [acv]
  have hrun : va_Run p l e R s m args below meth c H locs cells slots (h1.1.length - h.1.length) (h1.2 - h.2) (F0 m pc ls ((as.reverse ++ .ref o :: r).map (acv b0 ea))) (r.map (acv b0 ea)) (aQ D cA ea b0 v h1 (Value.ref (b0 + o) :: as.map (acv b0 ea)).toArray) (fun q => b0 ≤ q) :=
    va_runV ⟨hx, hb, hml, hown, hts⟩ hM (cwV Y.2.2.2.2.2.1 hts (gW (fun w hw => by
        simp only [wsV, List.cons_append, List.nil_append, List.mem_cons] at hw
        rcases hw with rfl | rfl | rfl | rfl | hw
        · exact hlk
        · exact hst
        · exact hse
        · exact hok.2.2.1
        · exact gWs hok w hw)) rfl rfl rfl ⟨rfl, d1, d2, d3⟩ ⟨hR3, by show 8 + (Y.2.2.2.1 + 11) + 41 * d' ≤ R.locals; omega⟩) hpre rfl (by rw [List.length_map]; exact hn) hl.2.1 hst2 (lv_room (by rw [aws_map]; exact hr8)) hd ⟨by omega, by omega⟩
  exact aW_back hrun hS hl (by omega) (by omega) k
theorem s_init {Γ : aGm} {pc ix a d' o : Nat} {L : aL} {as r : List Value} {h h1 h' : aH} {Y : aM} {v : Option Value} (hY : zmt[a]? = some Y) (hok : zMok Y) (hk1 : Y.2.2.2.2.2.2.1 = 2) (hc : zmcp.any (fun q => Nat.beq q.1 (aown Γ) && Nat.beq q.2.1 ix && Nat.beq q.2.2.1 a) = true) (hn : as.length = Y.2.2.2.2.2.1) (hr8 : aws r ≤ 8)
    (hM : aMG Γ d' Y (.ref o :: as) h v h1) (g1 : h.1.length ≤ h1.1.length ∧ h.2 ≤ h1.2) (g2 : h1.1.length ≤ h'.1.length ∧ h1.2 ≤ h'.2) (hR : aRm Γ (d' + 1) h') (C : aCF Γ) (hd : aDC Γ pc (.invokespecial ix) 3) (k : aSW Γ (pc + 3) L (v.toList ++ r) h1) : aSW Γ pc L (as.reverse ++ .ref o :: r) h := by
  obtain ⟨p, l, e, R, s, m, args, below, meth, c, Q, cc, nL, b0, n0, u0, own, kind, D, cA, ea, X⟩ := Γ
  intro H locs ls cells slots e1 e2 hP hS hl
  obtain ⟨hx, hb, hml, hown, hts, hKX, hsz, hki⟩ := C
  obtain ⟨⟨hR1, hR2⟩, hR3, hR4⟩ := hR
  obtain ⟨-, d1, d2, d3, d4, d5, d6⟩ := zMok_d hok
  obtain ⟨d6, d7⟩ := d6 hk1
  have hst : Cond.instanceMethod Y.2.1 ∈ zW := by have := hok.2.2.2.1; rw [if_neg (by omega)] at this; exact this
  refine aW_sz (fun hz => ?_)
  have hsH : H.size = b0 + h.1.length := aH_sz (n0 := n0) hP (by have := hS.1; rw [hsz] at this; exact this) (by rw [hsz] at hz; exact hz) e1
  have hpre : PreS s H (aPc D cA ea b0 X (.ref o :: as) h) (.ref (b0 + o) :: as.map (acv b0 ea)) :=
    ⟨aPc_blind, fun U hU hW => ⟨rfl, by rw [hU]; exact hsH, by rw [hU]; exact hP, aKX_go hKX hW (fun q q1 q2 => by rw [hU]; exact hS.2.1 q q1 q2)⟩⟩
  have hst2 : (as.reverse ++ .ref o :: r).map (acv b0 ea) = (as.map (acv b0 ea)).reverse ++ .ref (b0 + o) :: r.map (acv b0 ea) := by simp [acv]
  have hWs : aWs Y = Cond.code Y.2.1 Y.2.2.1 Y.2.2.2.1 none :: zW := by unfold aWs; rw [d7]
  have hrun : va_Run p l e R s m args below meth c H locs cells slots (h1.1.length - h.1.length) (h1.2 - h.2) (F0 m pc ls ((as.reverse ++ .ref o :: r).map (acv b0 ea))) (r.map (acv b0 ea)) (aQ D cA ea b0 v h1 (Value.ref (b0 + o) :: as.map (acv b0 ea)).toArray) (fun q => b0 ≤ q) := by
    rcases z_link hc (zmt_lt hY) (zyn_of hY) hKX with hlk | hlk
    · exact va_runI ⟨hx, hb, hml, hown, hts⟩ hM (cwI Y.2.2.2.2.2.1 hts (gW (gWs hok)) hWs rfl rfl (hts _ hok.2.2.1) (hts _ hlk) (hts _ hst) d6 ⟨d1, d2, d3⟩ ⟨hR3, by show 8 + (Y.2.2.2.1 + 11) + 41 * d' ≤ R.locals; omega⟩) hpre rfl (by rw [List.length_map]; exact hn) hl.2.1 hst2 (lv_room (by rw [aws_map]; exact hr8)) hd ⟨by omega, by omega⟩
    · exact va_runIN ⟨hx, hb, hml, hown, hts⟩ hM ⟨va_cnB Y.2.2.2.2.2.1 hts (gW (gWs hok)) hWs rfl rfl hlk (hts _ hok.2.2.1) ⟨d1, d2, d3⟩ ⟨hR3, by show 8 + (Y.2.2.2.1 + 11) + 41 * d' ≤ R.locals; omega⟩, d6, hts _ hst⟩ hpre rfl (by rw [List.length_map]; exact hn) hl.2.1 hst2 (lv_room (by rw [aws_map]; exact hr8)) hd ⟨by omega, by omega⟩
  exact aW_back hrun hS hl (by omega) (by omega) k

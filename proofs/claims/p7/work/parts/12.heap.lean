-- ===== fields, arrays, what is made =====
theorem zCl_get {c : Nat} (hc : c < 13) : zCl[c]? = some (zCN c, zT c, zN c) := by simp [zCl, hc]
theorem z_uws {c : Nat} (hc : c < 13) : ∀ w ∈ u_ws (zCN c) (zT c) (zN c), w ∈ zW := by
  intro w hw
  unfold u_ws at hw
  obtain ⟨k, hk, rfl⟩ := List.mem_map.mp hw
  have h1 := List.all_eq_true.mp zFP_ok c (List.mem_range.mpr hc)
  have h2 := List.all_eq_true.mp h1 k hk
  exact zTab_mem h2
theorem z_ty : ∀ c, c < 13 → ∀ k, k < zN c → parseFieldDescriptor (zT c k).2.2.1 = some (zY c k) := by decide +kernel
theorem z_nm : ∀ c, c < 13 → ∀ a, a < zN c → ∀ b, b < zN c → a ≠ b → (zT c a).2.1 ≠ (zT c b).2.1 := by decide +kernel
theorem z_dc : ∀ c, c < 13 → ∀ k, k < zN c → (zT c k).1 = zCN c := by decide +kernel
theorem z_fld {o ix a b : Nat} (h : zfcp.any (fun q => Nat.beq q.1 o && Nat.beq q.2.1 ix && Nat.beq q.2.2.1 a && Nat.beq q.2.2.2.1 b) = true) : a < 13 ∧ b < zN a ∧ zwF o ix a b ∈ zW := by
  obtain ⟨q, hq, hh⟩ := List.any_eq_true.mp h
  simp only [Bool.and_eq_true, Nat.beq_eq] at hh
  obtain ⟨⟨⟨rfl, rfl⟩, rfl⟩, rfl⟩ := hh
  have h1 := List.all_eq_true.mp zfcp_ok q hq
  simp only [Bool.and_eq_true, decide_eq_true_eq] at h1
  exact ⟨h1.1.1, h1.1.2, zTab_mem h1.2⟩
theorem acv_def {b0 : Nat} {ea : Nat → Nat} (ty : FieldType) : acv b0 ea (defaultValue ty) = defaultValue ty := by cases ty <;> rfl
theorem aok_n {b0 : Nat} {ea : Nat → Nat} {ty : FieldType} {v : Value} (h : aok ty v = true) : narrow ty (acv b0 ea v) = acv b0 ea v ∧ fits ty (acv b0 ea v) = true := by
  cases ty <;> cases v <;> first
    | exact ⟨rfl, rfl⟩
    | (cases h; done)
    | (rename_i x
       simp only [aok, Bool.or_eq_true, beq_iff_eq] at h
       rcases h with rfl | rfl <;> exact ⟨rfl, rfl⟩)
theorem aW_sz {p : Program} {l : Launch} {e : Env} {R : Room} {s : State} {m : MethodId} {args : Array Value} {below : List Frame} {meth : Method} {c : Code} {H : Heap} {locs : List Loc} {cells slots : Nat} {Q : State → Prop} {g : JFrame}
    (k : H.size ≤ s.heap.size + cells → W p l e R s m args below meth c H locs cells slots Q g) : W p l e R s m args below meth c H locs cells slots Q g := fun T hT X => k (by rw [← hT]; exact X.heapSize) T hT X
theorem awd_len {b0 : Nat} {ea : Nat → Nat} {cA : Nat → ClassId} {σ : List aC} : (awd b0 ea cA σ).length = σ.length := by simp [awd]
theorem aq_eq {b0 q : Nat} {ea : Nat → Nat} {cA : Nat → ClassId} {σ : List aC} {D : va_G} {cl : List vw_C} {e : va_E} {H1 : Heap} (hP : va_P D cl (awd b0 ea cA σ ++ [(q, e)]) H1) (hD : va_D (fun q => b0 ≤ q) (awd b0 ea cA σ ++ [(q, e)])) (hz : H1.size ≤ b0 + σ.length + 1) : q = b0 + σ.length := by
  have hg : (awd b0 ea cA σ ++ [(q, e)])[σ.length]? = some (q, e) := by
    rw [List.getElem?_append_right (by rw [awd_len]; exact Nat.le_refl _), awd_len]
    simp
  have h1 : b0 ≤ q := hD.2 σ.length (q, e) hg
  have h2 : q < H1.size := (hP σ.length (q, e) hg).lt
  have h3 : ∀ k, k < σ.length → q ≠ b0 + k := by
    intro k hk he
    have hg2 : (awd b0 ea cA σ ++ [(q, e)])[k]? = some (b0 + k, acc b0 ea cA σ[k]) := by
      rw [List.getElem?_append_left (by rw [awd_len]; exact hk)]
      exact awd_get (List.getElem?_eq_getElem hk)
    have := hD.1 k σ.length _ _ hg2 hg he.symm
    omega
  by_cases hlt : q < b0 + σ.length
  · exact absurd (by omega) (h3 (q - b0) (by omega))
  · omega
theorem arf_map {b0 : Nat} {ea : Nat → Nat} (x : Option Nat) : va_rf (x.map (fun k => b0 + k)) = acv b0 ea (arf x) := by cases x <;> rfl
section BZ
variable {Γ : aGm} {pc : Nat} {L : aL} {r : List Value} {h : aH}
theorem s_get {o ix a b : Nat} {fs : List Value} {v : Value} (ho : h.1[o]? = some (.inr (a, fs))) (hf : a < 13 ∧ b < zN a ∧ zwF (aown Γ) ix a b ∈ zW) (hv : fs[b]? = some v) (C : aCF Γ) (hd : aDC Γ pc (.getfield ix) 3) (k : aSW Γ (pc + 3) L (v :: r) h) : aSW Γ pc L (.ref o :: r) h := by
  obtain ⟨p, l, e, R, s, m, args, below, meth, c, Q, cc, nL, b0, n0, u0, own, kind, D, cA, ea, X⟩ := Γ
  intro H locs ls cells slots e1 e2 hP hS hl
  obtain ⟨hx, hb, hml, hown, hts, hKX, hsz, hki⟩ := C
  obtain ⟨ha, hb2, hw⟩ := hf
  exact va_get (C := zCN a) (T := zT a) (N := zN a) (ref := (zT a b).1) (v := acv b0 ea v) hx hb hts (z_uws ha) hown hKX.1 hP o (show (awd b0 ea cA h.1)[o]? = some (b0 + o, .inr (a, fs.map (acv b0 ea))) from awd_get ho) (zCl_get ha) b hb2 (hts _ hw) (fun _ h9 => h9) (by rw [List.getElem?_map, hv]; rfl) hd (k H locs ls cells slots e1 e2 hP hS hl)
theorem s_put {o ix a b : Nat} {fs : List Value} {v : Value} (ho : h.1[o]? = some (.inr (a, fs))) (hf : a < 13 ∧ b < zN a ∧ zwF (aown Γ) ix a b ∈ zW) (hfin : (zT a b).2.2.2 = false) (hv : aok (zY a b) v = true) (hlt : b < fs.length) (C : aCF Γ) (hd : aDC Γ pc (.putfield ix) 3) (k : aSW Γ (pc + 3) L r (h.1.set o (.inr (a, fs.set b v)), h.2)) : aSW Γ pc L (v :: .ref o :: r) h := by
  obtain ⟨p, l, e, R, s, m, args, below, meth, c, Q, cc, nL, b0, n0, u0, own, kind, D, cA, ea, X⟩ := Γ
  intro H locs ls cells slots e1 e2 hP hS hl
  obtain ⟨hx, hb, hml, hown, hts, hKX, hsz, hki⟩ := C
  obtain ⟨ha, hb2, hw⟩ := hf
  obtain ⟨hn, hfit⟩ := aok_n (b0 := b0) (ea := ea) hv
  refine va_put (C := zCN a) (T := zT a) (N := zN a) (ref := (zT a b).1) (v := acv b0 ea v) hx hb hts (z_uws ha) (zY a) (z_ty a ha) (z_nm a ha) hown hKX.1 hP awd_D hS o (show (awd b0 ea cA h.1)[o]? = some (b0 + o, .inr (a, fs.map (acv b0 ea))) from awd_get ho) (zCl_get ha) b hb2 (hts _ hw) (fun _ h9 => h9) hfin (z_ty a ha b hb2) hn hfit (by rw [List.length_map]; exact hlt) hd (fun H1 locs1 hP1 hD1 hS1 => ?_)
  refine k H1 locs1 ls cells slots (by rw [List.length_set]; exact e1) e2 ?_ hS1 hl
  rw [← awd_set]
  show va_P D zCl ((awd b0 ea cA h.1).set o (b0 + o, .inr (a, (fs.set b v).map (acv b0 ea)))) H1
  rw [List.map_set]
  exact hP1
theorem s_putF {o ix a b : Nat} {fs : List Value} {v : Value} (ho : h.1[o]? = some (.inr (a, fs))) (hf : a < 13 ∧ b < zN a ∧ zwF (aown Γ) ix a b ∈ zW) (hfin : (zT a b).2.2.2 = true) (hk2 : akind Γ = 2) (ho2 : aown Γ = a) (hv : aok (zY a b) v = true) (hlt : b < fs.length) (C : aCF Γ) (hd : aDC Γ pc (.putfield ix) 3) (k : aSW Γ (pc + 3) L r (h.1.set o (.inr (a, fs.set b v)), h.2)) : aSW Γ pc L (v :: .ref o :: r) h := by
  obtain ⟨p, l, e, R, s, m, args, below, meth, c, Q, cc, nL, b0, n0, u0, own, kind, D, cA, ea, X⟩ := Γ
  intro H locs ls cells slots e1 e2 hP hS hl
  obtain ⟨hx, hb, hml, hown, hts, hKX, hsz, hki⟩ := C
  obtain ⟨ha, hb2, hw⟩ := hf
  obtain ⟨hn, hfit⟩ := aok_n (b0 := b0) (ea := ea) hv
  refine va_putF (C := zCN a) (T := zT a) (N := zN a) (ref := (zT a b).1) (v := acv b0 ea v) hx hb hts (z_uws ha) (zY a) (z_ty a ha) (z_nm a ha) hown hKX.1 hP awd_D hS o (show (awd b0 ea cA h.1)[o]? = some (b0 + o, .inr (a, fs.map (acv b0 ea))) from awd_get ho) (zCl_get ha) b hb2 (hts _ hw) (fun _ h9 => h9) hfin (hki hk2) ((z_dc a ha b hb2).trans (congrArg zCN ho2.symm)) (z_ty a ha b hb2) hn hfit (by rw [List.length_map]; exact hlt) hd (fun H1 locs1 hP1 hD1 hS1 => ?_)
  refine k H1 locs1 ls cells slots (by rw [List.length_set]; exact e1) e2 ?_ hS1 hl
  rw [← awd_set]
  show va_P D zCl ((awd b0 ea cA h.1).set o (b0 + o, .inr (a, (fs.set b v).map (acv b0 ea)))) H1
  rw [List.map_set]
  exact hP1
theorem s_iald {o n : Nat} {j : Int32} {f : Nat → Int32} (ho : h.1[o]? = some (.inl (0, n, .inl f))) (hj : ¬ (j < 0 ∨ n ≤ j.toNatClampNeg)) (C : aCF Γ) (hd : aDC Γ pc .iaload 1) (k : aSW Γ (pc + 1) L (.int (f j.toNatClampNeg) :: r) h) : aSW Γ pc L (.int j :: .ref o :: r) h := by
  obtain ⟨p, l, e, R, s, m, args, below, meth, c, Q, cc, nL, b0, n0, u0, own, kind, D, cA, ea, X⟩ := Γ
  intro H locs ls cells slots e1 e2 hP hS hl
  obtain ⟨hx, hb, hml, hown, hts, hKX, hsz, hki⟩ := C
  exact va_iald hx hb hKX.1 hP o 0 (show (awd b0 ea cA h.1)[o]? = some (b0 + o, .inl (cA 0, n, .inl f)) from awd_get ho) rfl hj hd (k H locs ls cells slots e1 e2 hP hS hl)
theorem s_zald {o n : Nat} {j : Int32} {f : Nat → Int32} (ho : h.1[o]? = some (.inl (2, n, .inl f))) (hj : ¬ (j < 0 ∨ n ≤ j.toNatClampNeg)) (C : aCF Γ) (hd : aDC Γ pc .baload 1) (k : aSW Γ (pc + 1) L (.int (f j.toNatClampNeg) :: r) h) : aSW Γ pc L (.int j :: .ref o :: r) h := by
  obtain ⟨p, l, e, R, s, m, args, below, meth, c, Q, cc, nL, b0, n0, u0, own, kind, D, cA, ea, X⟩ := Γ
  intro H locs ls cells slots e1 e2 hP hS hl
  obtain ⟨hx, hb, hml, hown, hts, hKX, hsz, hki⟩ := C
  exact va_zald hx hb hKX.1 hP o 2 (show (awd b0 ea cA h.1)[o]? = some (b0 + o, .inl (cA 2, n, .inl f)) from awd_get ho) rfl hj hd (k H locs ls cells slots e1 e2 hP hS hl)
theorem s_bald {o n : Nat} {j : Int32} {f : Nat → Int32} (ho : h.1[o]? = some (.inl (3, n, .inl f))) (hj : ¬ (j < 0 ∨ n ≤ j.toNatClampNeg)) (C : aCF Γ) (hd : aDC Γ pc .baload 1) (k : aSW Γ (pc + 1) L (.int (f j.toNatClampNeg) :: r) h) : aSW Γ pc L (.int j :: .ref o :: r) h := by
  obtain ⟨p, l, e, R, s, m, args, below, meth, c, Q, cc, nL, b0, n0, u0, own, kind, D, cA, ea, X⟩ := Γ
  intro H locs ls cells slots e1 e2 hP hS hl
  obtain ⟨hx, hb, hml, hown, hts, hKX, hsz, hki⟩ := C
  exact va_bald hx hb hKX.1 hP o 3 (show (awd b0 ea cA h.1)[o]? = some (b0 + o, .inl (cA 3, n, .inl f)) from awd_get ho) rfl hj hd (k H locs ls cells slots e1 e2 hP hS hl)
theorem s_lald {o n : Nat} {j : Int32} {f : Nat → Int64} (ho : h.1[o]? = some (.inl (1, n, .inr (.inl f)))) (hj : ¬ (j < 0 ∨ n ≤ j.toNatClampNeg)) (C : aCF Γ) (hd : aDC Γ pc .laload 1) (k : aSW Γ (pc + 1) L (.long (f j.toNatClampNeg) :: r) h) : aSW Γ pc L (.int j :: .ref o :: r) h := by
  obtain ⟨p, l, e, R, s, m, args, below, meth, c, Q, cc, nL, b0, n0, u0, own, kind, D, cA, ea, X⟩ := Γ
  intro H locs ls cells slots e1 e2 hP hS hl
  obtain ⟨hx, hb, hml, hown, hts, hKX, hsz, hki⟩ := C
  exact va_lald hx hb hKX.1 hP o 1 (show (awd b0 ea cA h.1)[o]? = some (b0 + o, .inl (cA 1, n, .inr (.inl f))) from awd_get ho) rfl hj hd (k H locs ls cells slots e1 e2 hP hS hl)
theorem s_aald4 {o n : Nat} {j : Int32} {f : Nat → Option Nat} (ho : h.1[o]? = some (.inl (4, n, .inr (.inr (.inr (.inr f)))))) (hj : ¬ (j < 0 ∨ n ≤ j.toNatClampNeg)) (C : aCF Γ) (hd : aDC Γ pc .aaload 1) (k : aSW Γ (pc + 1) L (arf (f j.toNatClampNeg) :: r) h) : aSW Γ pc L (.int j :: .ref o :: r) h := by
  obtain ⟨p, l, e, R, s, m, args, below, meth, c, Q, cc, nL, b0, n0, u0, own, kind, D, cA, ea, X⟩ := Γ
  intro H locs ls cells slots e1 e2 hP hS hl
  obtain ⟨hx, hb, hml, hown, hts, hKX, hsz, hki⟩ := C
  refine va_aldq hx hb hKX.1 hP o 4 (show (awd b0 ea cA h.1)[o]? = some (b0 + o, .inl (cA 4, n, .inr (.inr (.inr (.inr (fun i => (f i).map (fun k => b0 + k))))))) from awd_get ho) rfl hj hd ?_
  have e : va_rf ((f j.toNatClampNeg).map (fun k => b0 + k)) = acv b0 ea (arf (f j.toNatClampNeg)) := arf_map _
  rw [e]
  exact k H locs ls cells slots e1 e2 hP hS hl
theorem s_aald5 {o n : Nat} {j : Int32} {f : Nat → Option Nat} (ho : h.1[o]? = some (.inl (5, n, .inr (.inr (.inr (.inr f)))))) (hj : ¬ (j < 0 ∨ n ≤ j.toNatClampNeg)) (C : aCF Γ) (hd : aDC Γ pc .aaload 1) (k : aSW Γ (pc + 1) L (arf (f j.toNatClampNeg) :: r) h) : aSW Γ pc L (.int j :: .ref o :: r) h := by
  obtain ⟨p, l, e, R, s, m, args, below, meth, c, Q, cc, nL, b0, n0, u0, own, kind, D, cA, ea, X⟩ := Γ
  intro H locs ls cells slots e1 e2 hP hS hl
  obtain ⟨hx, hb, hml, hown, hts, hKX, hsz, hki⟩ := C
  have hlt : j.toNatClampNeg < n := Nat.not_le.mp fun q => hj (Or.inr q)
  have hc := hP o _ (show (awd b0 ea cA h.1)[o]? = some (b0 + o, .inl (cA 5, n, .inr (.inr (.inr (.inr (fun i => (f i).map (fun k => b0 + k))))))) from awd_get ho)
  exact W.aald (v := acv b0 ea (arf (f j.toNatClampNeg))) (ty := .array .int) hx hb hc ((hKX.1.2 5 _ rfl).1 n (fun j => va_rf ((f j).map (fun k => b0 + k)))) rfl (fun q => by cases q) (by show ¬ (j < 0 ∨ (arrV _ _ _).slots.size ≤ _); rw [arrV_size]; exact hj) (by show (arrV _ _ _).slots[_]? = _; rw [arrV_read _ _ hlt, arf_map (ea := ea)]) rfl rfl hd (k H locs ls cells slots e1 e2 hP hS hl)
theorem s_iast {o n : Nat} {j : Int32} {x : Int32} {f : Nat → Int32} (ho : h.1[o]? = some (.inl (0, n, .inl f))) (hj : ¬ (j < 0 ∨ n ≤ j.toNatClampNeg)) (C : aCF Γ) (hd : aDC Γ pc .iastore 1) (k : aSW Γ (pc + 1) L r (h.1.set o (.inl (0, n, .inl (upd f j.toNatClampNeg x))), h.2)) : aSW Γ pc L (.int x :: .int j :: .ref o :: r) h := by
  obtain ⟨p, l, e, R, s, m, args, below, meth, c, Q, cc, nL, b0, n0, u0, own, kind, D, cA, ea, X⟩ := Γ
  intro H locs ls cells slots e1 e2 hP hS hl
  obtain ⟨hx, hb, hml, hown, hts, hKX, hsz, hki⟩ := C
  refine va_iast hx hb hKX.1 hP awd_D hS o 0 (show (awd b0 ea cA h.1)[o]? = some (b0 + o, .inl (cA 0, n, .inl f)) from awd_get ho) rfl hj hd (fun H1 locs1 hP1 hD1 hS1 => ?_)
  refine k H1 locs1 ls cells slots (by rw [List.length_set]; exact e1) e2 ?_ hS1 hl
  rw [← awd_set]
  exact hP1
theorem s_zast {o n : Nat} {j : Int32} {x : Int32} {f : Nat → Int32} (ho : h.1[o]? = some (.inl (2, n, .inl f))) (hj : ¬ (j < 0 ∨ n ≤ j.toNatClampNeg)) (C : aCF Γ) (hd : aDC Γ pc .bastore 1) (k : aSW Γ (pc + 1) L r (h.1.set o (.inl (2, n, .inl (upd f j.toNatClampNeg (x &&& 1)))), h.2)) : aSW Γ pc L (.int x :: .int j :: .ref o :: r) h := by
  obtain ⟨p, l, e, R, s, m, args, below, meth, c, Q, cc, nL, b0, n0, u0, own, kind, D, cA, ea, X⟩ := Γ
  intro H locs ls cells slots e1 e2 hP hS hl
  obtain ⟨hx, hb, hml, hown, hts, hKX, hsz, hki⟩ := C
  refine va_zast hx hb hKX.1 hP awd_D hS o 2 (show (awd b0 ea cA h.1)[o]? = some (b0 + o, .inl (cA 2, n, .inl f)) from awd_get ho) rfl hj hd (fun H1 locs1 hP1 hD1 hS1 => ?_)
  refine k H1 locs1 ls cells slots (by rw [List.length_set]; exact e1) e2 ?_ hS1 hl
  rw [← awd_set]
  exact hP1
theorem s_bast {o n : Nat} {j : Int32} {x : Int32} {f : Nat → Int32} (ho : h.1[o]? = some (.inl (3, n, .inl f))) (hj : ¬ (j < 0 ∨ n ≤ j.toNatClampNeg)) (C : aCF Γ) (hd : aDC Γ pc .bastore 1) (k : aSW Γ (pc + 1) L r (h.1.set o (.inl (3, n, .inl (upd f j.toNatClampNeg x.toInt8.toInt32))), h.2)) : aSW Γ pc L (.int x :: .int j :: .ref o :: r) h := by
  obtain ⟨p, l, e, R, s, m, args, below, meth, c, Q, cc, nL, b0, n0, u0, own, kind, D, cA, ea, X⟩ := Γ
  intro H locs ls cells slots e1 e2 hP hS hl
  obtain ⟨hx, hb, hml, hown, hts, hKX, hsz, hki⟩ := C
  refine va_bast hx hb hKX.1 hP awd_D hS o 3 (show (awd b0 ea cA h.1)[o]? = some (b0 + o, .inl (cA 3, n, .inl f)) from awd_get ho) rfl hj hd (fun H1 locs1 hP1 hD1 hS1 => ?_)
  refine k H1 locs1 ls cells slots (by rw [List.length_set]; exact e1) e2 ?_ hS1 hl
  rw [← awd_set]
  exact hP1
theorem s_last {o n : Nat} {j : Int32} {x : Int64} {f : Nat → Int64} (ho : h.1[o]? = some (.inl (1, n, .inr (.inl f)))) (hj : ¬ (j < 0 ∨ n ≤ j.toNatClampNeg)) (C : aCF Γ) (hd : aDC Γ pc .lastore 1) (k : aSW Γ (pc + 1) L r (h.1.set o (.inl (1, n, .inr (.inl (vp_updL f j.toNatClampNeg x)))), h.2)) : aSW Γ pc L (.long x :: .int j :: .ref o :: r) h := by
  obtain ⟨p, l, e, R, s, m, args, below, meth, c, Q, cc, nL, b0, n0, u0, own, kind, D, cA, ea, X⟩ := Γ
  intro H locs ls cells slots e1 e2 hP hS hl
  obtain ⟨hx, hb, hml, hown, hts, hKX, hsz, hki⟩ := C
  refine va_last hx hb hKX.1 hP awd_D hS o 1 (show (awd b0 ea cA h.1)[o]? = some (b0 + o, .inl (cA 1, n, .inr (.inl f))) from awd_get ho) rfl hj hd (fun H1 locs1 hP1 hD1 hS1 => ?_)
  refine k H1 locs1 ls cells slots (by rw [List.length_set]; exact e1) e2 ?_ hS1 hl
  rw [← awd_set]
  exact hP1
theorem s_aast {o n q : Nat} {j : Int32} {f : Nat → Option Nat} {fs : List Value} (ho : h.1[o]? = some (.inl (4, n, .inr (.inr (.inr (.inr f)))))) (hq : h.1[q]? = some (.inr (8, fs))) (hj : ¬ (j < 0 ∨ n ≤ j.toNatClampNeg)) (C : aCF Γ) (hd : aDC Γ pc .aastore 1) (k : aSW Γ (pc + 1) L r (h.1.set o (.inl (4, n, .inr (.inr (.inr (.inr (va_up f j.toNatClampNeg (some q))))))), h.2)) : aSW Γ pc L (.ref q :: .int j :: .ref o :: r) h := by
  obtain ⟨p, l, e, R, s, m, args, below, meth, c, Q, cc, nL, b0, n0, u0, own, kind, D, cA, ea, X⟩ := Γ
  intro H locs ls cells slots e1 e2 hP hS hl
  obtain ⟨hx, hb, hml, hown, hts, hKX, hsz, hki⟩ := C
  refine va_astq (r := (zCN 8, zT 8, zN 8)) (vs := fs.map (acv b0 ea)) hx hb hKX.1 hP awd_D hS o 4 q 8 (show (awd b0 ea cA h.1)[o]? = some (b0 + o, .inl (cA 4, n, .inr (.inr (.inr (.inr (fun i => (f i).map (fun k => b0 + k))))))) from awd_get ho) rfl (show (awd b0 ea cA h.1)[q]? = some (b0 + q, .inr (8, fs.map (acv b0 ea))) from awd_get hq) (zCl_get (by decide)) hj hd (fun H1 locs1 hP1 hD1 hS1 => ?_)
  refine k H1 locs1 ls cells slots (by rw [List.length_set]; exact e1) e2 ?_ hS1 hl
  rw [← awd_set]
  have e : (fun i => (va_up f j.toNatClampNeg (some q) i).map (fun k => b0 + k)) = va_up (fun i => (f i).map (fun k => b0 + k)) j.toNatClampNeg (some (b0 + q)) := by
    funext i
    unfold va_up
    split <;> rfl
  show va_P D zCl ((awd b0 ea cA h.1).set o (b0 + o, .inl (cA 4, n, .inr (.inr (.inr (.inr (fun i => (va_up f j.toNatClampNeg (some q) i).map (fun k => b0 + k)))))))) H1
  rw [e]
  exact hP1
theorem s_aast5 {o n q n' : Nat} {j : Int32} {f : Nat → Option Nat} {g : Nat → Int32} (ho : h.1[o]? = some (.inl (5, n, .inr (.inr (.inr (.inr f)))))) (hq : h.1[q]? = some (.inl (0, n', .inl g))) (hj : ¬ (j < 0 ∨ n ≤ j.toNatClampNeg)) (C : aCF Γ) (hd : aDC Γ pc .aastore 1) (k : aSW Γ (pc + 1) L r (h.1.set o (.inl (5, n, .inr (.inr (.inr (.inr (va_up f j.toNatClampNeg (some q))))))), h.2)) : aSW Γ pc L (.ref q :: .int j :: .ref o :: r) h := by
  obtain ⟨p, l, e, R, s, m, args, below, meth, c, Q, cc, nL, b0, n0, u0, own, kind, D, cA, ea, X⟩ := Γ
  intro H locs ls cells slots e1 e2 hP hS hl
  obtain ⟨hx, hb, hml, hown, hts, hKX, hsz, hki⟩ := C
  have ha : (awd b0 ea cA h.1)[o]? = some (b0 + o, .inl (cA 5, n, .inr (.inr (.inr (.inr (fun i => (f i).map (fun k => b0 + k))))))) := awd_get ho
  have hv : (awd b0 ea cA h.1)[q]? = some (b0 + q, .inl (cA 0, n', .inl g)) := awd_get hq
  have hlt : j.toNatClampNeg < n := Nat.not_le.mp fun q => hj (Or.inr q)
  have h0 : ¬ j < 0 := fun q => hj (Or.inl q)
  obtain ⟨comp, c5, k5, q1, q2, q3, q4, q5⟩ := arrayOverA_spec hKX.2.2.2.2.2.2.1
  have r5 : s.vm.findClass ("[" ++ (FieldType.array .int).toString) = some (cA 5) := (hKX.1.2 5 _ rfl).2
  have r0 : s.vm.findClass ("[" ++ FieldType.int.toString) = some (cA 0) := (hKX.1.2 0 _ rfl).2
  have z5 : c5 = cA 5 := Option.some.inj (q5.symm.trans r5)
  have z0 : comp = cA 0 := Option.some.inj (q1.symm.trans r0)
  subst z0
  rw [z5] at q3
  obtain ⟨-, k0, kk0, comp0, kkind0⟩ := (hKX.1.2 0 _ rfl).1 n' (fun j => .int (g j))
  refine W.aast hx hb (hP o _ ha) (fun q h => by cases h) (fun h => by cases h) q3 q4 rfl kk0 ⟨h0, by show _ < (arrV _ _ _).slots.size; rw [arrV_size]; exact hlt⟩ (hP q _ hv) (fun q h => by cases h) kk0 (Vm.assignable_self _ _) rfl rfl hd fun H1 eH zH oq => ?_
  have hP1 : va_P D zCl ((awd b0 ea cA h.1).set o (b0 + o, .inl (cA 5, n, .inr (.inr (.inr (.inr (va_up (fun i => (f i).map (fun k => b0 + k)) j.toNatClampNeg (some (b0 + q))))))))) H1 := by
    refine hP.set awd_D ha ?_ oq
    show H1[b0 + o]? = some (vp_cell _ _)
    rw [eH]
    rw [vp_cell_q, vp_cell_q, arrV_store]
    congr 2
    funext q
    by_cases hq : q = j.toNatClampNeg
    · subst hq
      simp [updV, va_up, va_rf]
    · simp [updV, va_up, hq]
  refine k H1 _ ls cells slots (by rw [List.length_set]; exact e1) e2 ?_ (hS.put zH oq (awd_D.2 o _ ha)) hl
  rw [← awd_set]
  have e : (fun i => (va_up f j.toNatClampNeg (some q) i).map (fun k => b0 + k)) = va_up (fun i => (f i).map (fun k => b0 + k)) j.toNatClampNeg (some (b0 + q)) := by
    funext i
    unfold va_up
    split <;> rfl
  show va_P D zCl ((awd b0 ea cA h.1).set o (b0 + o, .inl (cA 5, n, .inr (.inr (.inr (.inr (fun i => (va_up f j.toNatClampNeg (some q) i).map (fun k => b0 + k)))))))) H1
  rw [e]
  exact hP1
theorem s_alen {o n : Nat} {f : (Nat → Int32) ⊕ (Nat → Int64) ⊕ (Nat → UInt32) ⊕ (Nat → UInt64) ⊕ (Nat → Option Nat)} (ho : h.1[o]? = some (.inl (0, n, f))) (C : aCF Γ) (hd : aDC Γ pc .arraylength 1) (k : aSW Γ (pc + 1) L (.int (Int32.ofNat n) :: r) h) : aSW Γ pc L (.ref o :: r) h := by
  obtain ⟨p, l, e, R, s, m, args, below, meth, c, Q, cc, nL, b0, n0, u0, own, kind, D, cA, ea, X⟩ := Γ
  intro H locs ls cells slots e1 e2 hP hS hl
  obtain ⟨hx, hb, hml, hown, hts, hKX, hsz, hki⟩ := C
  have e : (acA b0 (n, f)).1 = n := by
    rcases f with f | f | f | f | f <;> rfl
  exact va_alen hx hb hKX.1 hP o 0 (show (awd b0 ea cA h.1)[o]? = some (b0 + o, .inl (cA 0, acA b0 (n, f))) from awd_get ho) rfl (by rw [e]) hd (k H locs ls cells slots e1 e2 hP hS hl)
theorem s_alen1 {o n : Nat} {f : (Nat → Int32) ⊕ (Nat → Int64) ⊕ (Nat → UInt32) ⊕ (Nat → UInt64) ⊕ (Nat → Option Nat)} (ho : h.1[o]? = some (.inl (1, n, f))) (C : aCF Γ) (hd : aDC Γ pc .arraylength 1) (k : aSW Γ (pc + 1) L (.int (Int32.ofNat n) :: r) h) : aSW Γ pc L (.ref o :: r) h := by
  obtain ⟨p, l, e, R, s, m, args, below, meth, c, Q, cc, nL, b0, n0, u0, own, kind, D, cA, ea, X⟩ := Γ
  intro H locs ls cells slots e1 e2 hP hS hl
  obtain ⟨hx, hb, hml, hown, hts, hKX, hsz, hki⟩ := C
  have e : (acA b0 (n, f)).1 = n := by
    rcases f with f | f | f | f | f <;> rfl
  exact va_alen hx hb hKX.1 hP o 1 (show (awd b0 ea cA h.1)[o]? = some (b0 + o, .inl (cA 1, acA b0 (n, f))) from awd_get ho) rfl (by rw [e]) hd (k H locs ls cells slots e1 e2 hP hS hl)
theorem s_xld {x n : Nat} {j : Int32} {f : Nat → Int32} (hX : aXX Γ x = some (n, f)) (hj : ¬ (j < 0 ∨ n ≤ j.toNatClampNeg)) (C : aCF Γ) (hd : aDC Γ pc .iaload 1) (k : aSW Γ (pc + 1) L (.int (f j.toNatClampNeg) :: r) h) : aSW Γ pc L (.int j :: .retAddr x :: r) h := by
  obtain ⟨p, l, e, R, s, m, args, below, meth, c, Q, cc, nL, b0, n0, u0, own, kind, D, cA, ea, X⟩ := Γ
  intro H locs ls cells slots e1 e2 hP hS hl
  obtain ⟨hx, hb, hml, hown, hts, hKX, hsz, hki⟩ := C
  exact va_ti hx hb (hKX.2.1 x n f hX) hS hj rfl hd (k H locs ls cells slots e1 e2 hP hS hl)
theorem s_xlen {x n : Nat} {f : Nat → Int32} (hX : aXX Γ x = some (n, f)) (C : aCF Γ) (hd : aDC Γ pc .arraylength 1) (k : aSW Γ (pc + 1) L (.int (Int32.ofNat n) :: r) h) : aSW Γ pc L (.retAddr x :: r) h := by
  obtain ⟨p, l, e, R, s, m, args, below, meth, c, Q, cc, nL, b0, n0, u0, own, kind, D, cA, ea, X⟩ := Γ
  intro H locs ls cells slots e1 e2 hP hS hl
  obtain ⟨hx, hb, hml, hown, hts, hKX, hsz, hki⟩ := C
  obtain ⟨cell, h1, h2, h3, h4, h5, h6, h7⟩ := hKX.2.1 x n f hX
  exact W.alen hx hb (by rw [hS.2.1 _ (Array.getElem?_eq_some_iff.mp h1).1 h7]; exact h1) h2 h5 rfl rfl hd (k H locs ls cells slots e1 e2 hP hS hl)
theorem s_gets (ho6 : aown Γ = 6) (C : aCF Γ) (hd : aDC Γ pc (.getstatic 49) 3) (k : aSW Γ (pc + 3) L (.retAddr 0 :: r) h) : aSW Γ pc L r h := by
  obtain ⟨p, l, e, R, s, m, args, below, meth, c, Q, cc, nL, b0, n0, u0, own, kind, D, cA, ea, X⟩ := Γ
  intro H locs ls cells slots e1 e2 hP hS hl
  obtain ⟨hx, hb, hml, hown, hts, hKX, hsz, hki⟩ := C
  have ho6 : own = 6 := ho6
  subst ho6
  exact va_getsN hx hb hKX.2.2.1 hS hown (va_Nw.use rfl hKX.2.2.2.2.1) (fun _ h9 => h9) hd (k H locs ls cells slots e1 e2 hP hS hl)
theorem s_new {ix a : Nat} (ha : a < 13) (hcl : Cond.classLink (zCN (aown Γ)) ix (zCN a) ∈ zW) (hins : Cond.instantiable (zCN a) (zN a) ∈ zW) (hini : Cond.initialized (zCN a) ∈ zW) (hR : aRM Γ (h.1 ++ [.inr (a, (List.range (zN a)).map (fun c => defaultValue (zY a c)))], h.2 + zN a)) (C : aCF Γ) (hd : aDC Γ pc (.new ix) 3)
    (k : aSW Γ (pc + 3) L (.ref h.1.length :: r) (h.1 ++ [.inr (a, (List.range (zN a)).map (fun c => defaultValue (zY a c)))], h.2 + zN a)) : aSW Γ pc L r h := by
  obtain ⟨p, l, e, R, s, m, args, below, meth, c, Q, cc, nL, b0, n0, u0, own, kind, D, cA, ea, X⟩ := Γ
  intro H locs ls cells slots e1 e2 hP hS hl
  obtain ⟨hx, hb, hml, hown, hts, hKX, hsz, hki⟩ := C
  obtain ⟨hR1, hR2⟩ := hR
  rw [List.length_append] at hR1
  simp only [List.length_cons, List.length_nil] at hR1
  dsimp only at hR2
  refine va_new (C := zCN a) (T := zT a) (N := zN a) (ci := a) (fs := ((List.range (zN a)).map (fun c => defaultValue (zY a c))).map (acv b0 ea)) hx hb hts (z_uws ha) (zY a) (z_ty a ha) hown (hts _ hcl) (hts _ hins) (hts _ hini) hKX.1 hP awd_D hS (fun q hq => by rw [hsz] at hq; exact Nat.le_trans (Nat.le_add_right _ _) hq) (zCl_get ha) (fun j hj => by simp [vp_V, hj, acv_def]) (by omega) (by omega) hd (fun q H1 hP1 hD1 hS1 => aW_sz (fun hz => ?_))
  have hq : q = b0 + h.1.length := aq_eq hP1 hD1 (by omega)
  subst hq
  refine k H1 locs ls (cells + 1) (slots + zN a) (by rw [List.length_append]; simp only [List.length_cons, List.length_nil]; omega) (by dsimp only; omega) ?_ hS1 hl
  rw [awd_push]
  exact hP1
theorem s_newa {t : Nat} {at' : ArrayType} {x : Int32} (hat : zTy t = some at') (hx0 : ¬ (x < 0 ∨ 100000 < x)) (har : Cond.arrayClass (newarray.typeOf at') ∈ zW) (hR : aRM Γ (h.1 ++ [.inl (t, x.toNatClampNeg, azero t)], h.2 + x.toNatClampNeg)) (C : aCF Γ) (hd : aDC Γ pc (.newarray at') 2)
    (k : aSW Γ (pc + 2) L (.ref h.1.length :: r) (h.1 ++ [.inl (t, x.toNatClampNeg, azero t)], h.2 + x.toNatClampNeg)) : aSW Γ pc L (.int x :: r) h := by
  obtain ⟨p, l, e, R, s, m, args, below, meth, c, Q, cc, nL, b0, n0, u0, own, kind, D, cA, ea, X⟩ := Γ
  intro H locs ls cells slots e1 e2 hP hS hl
  obtain ⟨hx, hb, hml, hown, hts, hKX, hsz, hki⟩ := C
  obtain ⟨hR1, hR2⟩ := hR
  rw [List.length_append] at hR1
  simp only [List.length_cons, List.length_nil] at hR1
  dsimp only at hR2
  have hn : ¬ x < 0 := fun q => hx0 (Or.inl q)
  have hN : x.toNatClampNeg ≤ 100000 := by
    have h2 : ¬ 100000 < x := fun q => hx0 (Or.inr q)
    have h3 : x.toInt ≤ 100000 := by
      have := Int32.not_lt.mp h2
      exact Int32.le_iff_toInt_le.mp this
    have h4 : x.toNatClampNeg = x.toInt.toNat := rfl
    omega
  have key : ∀ (ty : FieldType), newarray.typeOf at' = ty → componentBytes ty ≤ 8 → (∀ cA' : ClassId, vp_cell cA' (x.toNatClampNeg, azero t) = arrV cA' x.toNatClampNeg (fun _ => defaultValue ty)) → (atys cA)[t]? = some (cA t, ty) → (∀ cA' : ClassId, va_RA s cA' ty → cA' = cA t) → acA b0 (x.toNatClampNeg, azero t) = (x.toNatClampNeg, azero t) → W p l e R s m args below meth c H locs cells slots Q (F0 m pc ls (.int x :: r.map (acv b0 ea))) := by
    intro ty hty hcb hvc hti hun hac
    refine va_newa (atype := at') (ty := ty) (a0 := (x.toNatClampNeg, azero t)) hx hb (hts _ har) hty hKX.1 hP awd_D hS (fun q hq => by rw [hsz] at hq; exact Nat.le_trans (Nat.le_add_right _ _) hq) hvc hn rfl (Nat.le_trans (Nat.mul_le_mul hN hcb) (by decide)) (by omega) (by omega) hd (fun q cA' H1 hK1 hP1 hD1 hS1 => aW_sz (fun hz => ?_))
    have hq : q = b0 + h.1.length := aq_eq hP1 hD1 (by omega)
    subst hq
    have hc : cA' = cA t := hun cA' (hK1.2 6 (cA', ty) rfl).2
    subst hc
    refine k H1 locs ls (cells + 1) (slots + x.toNatClampNeg) (by rw [List.length_append]; simp only [List.length_cons, List.length_nil]; omega) (by dsimp only; omega) ?_ hS1 hl
    rw [awd_push]
    show va_P D zCl (awd b0 ea cA h.1 ++ [(b0 + h.1.length, .inl (cA t, acA b0 (x.toNatClampNeg, azero t)))]) H1
    rw [hac]
    exact hP1
  have hun : ∀ (i : Nat) (ty : FieldType), (∀ C, ty ≠ .object C) → (atys cA)[i]? = some (cA i, ty) → ∀ cA' : ClassId, va_RA s cA' ty → cA' = cA i := by
    intro i ty hno hi cA' h1
    have h2 := (hKX.1.2 i (cA i, ty) hi).2
    cases ty with
    | object C => exact absurd rfl (hno C)
    | _ => exact Option.some.inj (h1.symm.trans h2)
  match t, hat with
  | 0, hat => cases hat; exact key .int rfl (by decide) (fun _ => rfl) rfl (hun 0 .int (fun C q => by cases q) rfl) rfl
  | 1, hat => cases hat; exact key .long rfl (by decide) (fun _ => rfl) rfl (hun 1 .long (fun C q => by cases q) rfl) rfl
  | 2, hat => cases hat; exact key .boolean rfl (by decide) (fun _ => rfl) rfl (hun 2 .boolean (fun C q => by cases q) rfl) rfl
  | 3, hat => cases hat; exact key .byte rfl (by decide) (fun _ => rfl) rfl (hun 3 .byte (fun C q => by cases q) rfl) rfl
  | n + 4, hat => cases hat
theorem s_newq {ix : Nat} {x : Int32} (hx0 : ¬ (x < 0 ∨ 100000 < x)) (hcl : Cond.classLink (zCN (aown Γ)) ix "AcresPaid$Season" ∈ zW) (hR : aRM Γ (h.1 ++ [.inl (4, x.toNatClampNeg, .inr (.inr (.inr (.inr (fun _ => none)))))], h.2 + x.toNatClampNeg)) (C : aCF Γ) (hd : aDC Γ pc (.anewarray ix) 3)
    (k : aSW Γ (pc + 3) L (.ref h.1.length :: r) (h.1 ++ [.inl (4, x.toNatClampNeg, .inr (.inr (.inr (.inr (fun _ => none)))))], h.2 + x.toNatClampNeg)) : aSW Γ pc L (.int x :: r) h := by
  obtain ⟨p, l, e, R, s, m, args, below, meth, c, Q, cc, nL, b0, n0, u0, own, kind, D, cA, ea, X⟩ := Γ
  intro H locs ls cells slots e1 e2 hP hS hl
  obtain ⟨hx, hb, hml, hown, hts, hKX, hsz, hki⟩ := C
  obtain ⟨hR1, hR2⟩ := hR
  rw [List.length_append] at hR1
  simp only [List.length_cons, List.length_nil] at hR1
  dsimp only at hR2
  have hn : ¬ x < 0 := fun q => hx0 (Or.inl q)
  have hN : x.toNatClampNeg ≤ 100000 := by
    have h2 : ¬ 100000 < x := fun q => hx0 (Or.inr q)
    have h3 : x.toInt ≤ 100000 := Int32.le_iff_toInt_le.mp (Int32.not_lt.mp h2)
    have h4 : x.toNatClampNeg = x.toInt.toNat := rfl
    omega
  refine va_newq (C := "AcresPaid$Season") hx hb hown (hts _ hcl) hKX.2.2.2.2.2.1 hKX.1 hP awd_D hS (fun q hq => by rw [hsz] at hq; exact Nat.le_trans (Nat.le_add_right _ _) hq) hn rfl (by omega) (by omega) (by omega) hd (fun q cA' H1 hK1 hP1 hD1 hS1 => aW_sz (fun hz => ?_))
  have hq : q = b0 + h.1.length := aq_eq hP1 hD1 (by omega)
  subst hq
  have hc : cA' = cA 4 := by
    obtain ⟨k1, c1, -, -, -, g1⟩ := (hK1.2 6 (cA', .object "AcresPaid$Season") rfl).2
    obtain ⟨k2, c2, -, -, -, g2⟩ := (hKX.1.2 4 (cA 4, .object "AcresPaid$Season") rfl).2
    exact Option.some.inj (g1.symm.trans g2)
  subst hc
  refine k H1 locs ls (cells + 1) (slots + x.toNatClampNeg) (by rw [List.length_append]; simp only [List.length_cons, List.length_nil]; omega) (by dsimp only; omega) ?_ hS1 hl
  rw [awd_push]
  exact hP1
theorem s_newA {ix : Nat} {x : Int32} (hx0 : ¬ (x < 0 ∨ 100000 < x)) (hcl : Cond.classLink (zCN (aown Γ)) ix "[I" ∈ zW) (hR : aRM Γ (h.1 ++ [.inl (5, x.toNatClampNeg, .inr (.inr (.inr (.inr (fun _ => none)))))], h.2 + x.toNatClampNeg)) (C : aCF Γ) (hd : aDC Γ pc (.anewarray ix) 3)
    (k : aSW Γ (pc + 3) L (.ref h.1.length :: r) (h.1 ++ [.inl (5, x.toNatClampNeg, .inr (.inr (.inr (.inr (fun _ => none)))))], h.2 + x.toNatClampNeg)) : aSW Γ pc L (.int x :: r) h := by
  obtain ⟨p, l, e, R, s, m, args, below, meth, c, Q, cc, nL, b0, n0, u0, own, kind, D, cA, ea, X⟩ := Γ
  intro H locs ls cells slots e1 e2 hP hS hl
  obtain ⟨hx, hb, hml, hown, hts, hKX, hsz, hki⟩ := C
  obtain ⟨hR1, hR2⟩ := hR
  rw [List.length_append] at hR1
  simp only [List.length_cons, List.length_nil] at hR1
  dsimp only at hR2
  have hn : ¬ x < 0 := fun q => hx0 (Or.inl q)
  have hN : x.toNatClampNeg ≤ 100000 := by
    have h2 : ¬ 100000 < x := fun q => hx0 (Or.inr q)
    have h3 : x.toInt ≤ 100000 := Int32.le_iff_toInt_le.mp (Int32.not_lt.mp h2)
    have h4 : x.toNatClampNeg = x.toInt.toNat := rfl
    omega
  refine W.anewA (t := .int) hx hb hown (hts _ hcl) hKX.2.2.2.2.2.2.1 rfl hd rfl hn (by omega) (by omega) (by omega) fun cA' kA comp f1 f2 f3 f4 => ?_
  have hc : cA' = cA 5 := Option.some.inj (f1.symm.trans (hKX.1.2 5 (cA 5, .array .int) rfl).2)
  subst hc
  generalize hH1 : H.push ({ cls := cA 5, slots := Array.replicate x.toNatClampNeg .null, vm := .none } : Cell) = H1
  have z1 : H1.size = H.size + 1 := by rw [← hH1, Array.size_push]
  have g1 : H1[H.size]? = some (arrV (cA 5) x.toNatClampNeg (fun _ => .null)) := by rw [← hH1, Array.getElem?_push_size, ← arrV_new]
  have o1 : ∀ q : Nat, q < H.size → H1[q]? = H[q]? := fun q hq => by rw [← hH1, Array.getElem?_push, if_neg (Nat.ne_of_lt hq)]
  have hk : ∀ (k : Nat) (y : Nat × va_E), (awd b0 ea cA h.1)[k]? = some y → H1[y.1]? = H[y.1]? := fun k y hy => o1 y.1 ((hP k y hy).lt)
  refine aW_sz (fun hz => ?_)
  have hP1 : va_P D zCl (awd b0 ea cA h.1 ++ [(H.size, .inl (cA 5, x.toNatClampNeg, .inr (.inr (.inr (.inr (fun _ => none))))))]) H1 := (hP.kept hk).app (fun k y hy => by
    have hz2 : k < 1 := (List.getElem?_eq_some_iff.mp hy).1
    rw [show k = 0 by omega] at hy
    cases hy
    show H1[H.size]? = some (vp_cell _ _)
    exact g1)
  have hD1 : va_D (fun q => b0 ≤ q) (awd b0 ea cA h.1 ++ [(H.size, .inl (cA 5, x.toNatClampNeg, .inr (.inr (.inr (.inr (fun _ => none))))))]) := awd_D.push hP rfl (by
    have := hS.1
    rw [hsz] at this
    exact Nat.le_trans (Nat.le_add_right _ _) this)
  have hq : H.size = b0 + h.1.length := aq_eq hP1 hD1 (by omega)
  rw [hq] at hP1
  have hS1 : va_S (fun q => b0 ≤ q) s.heap H1 locs := ⟨Nat.le_trans hS.1 (by omega), fun y h1 h2 => (o1 y (Nat.lt_of_lt_of_le h1 hS.1)).trans (hS.2.1 y h1 h2), hS.2.2⟩
  have kk := k H1 locs ls (cells + 1) (slots + x.toNatClampNeg) (by rw [List.length_append]; simp only [List.length_cons, List.length_nil]; omega) (by dsimp only; omega) (by rw [awd_push]; exact hP1) hS1 hl
  rw [hq]
  exact kk
end BZ

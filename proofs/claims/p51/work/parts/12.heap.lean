-- ===== 12.heap: 5 texts =====
section
-- ===== fields, arrays, what is made =====
theorem zCl_get {c : Nat} (hc : c < 13) : zCl[c]? = some (zCN c, zT c, zN c) := by simp [zCl, hc]
theorem z_uws {c : Nat} (hc : c < 13) : ∀ w ∈ u_ws (zCN c) (zT c) (zN c), w ∈ zW := by
  intro w hw
  unfold u_ws at hw
  obtain ⟨k, hk, rfl⟩ := List.mem_map.mp hw
  have h1 := List.all_eq_true.mp zFP_ok c (List.mem_range.mpr hc)
  have h2 := List.all_eq_true.mp h1 k hk
  exact zTab_mem h2
theorem z_ty : ∀ c, c < 13 → ∀ k, k < zN c → parseFieldDescriptor (zT c k).2.2.1 = some (zY c k) := by decide +kernel
theorem z_nm : ∀ c, c < 13 → ∀ a, a < zN c → ∀ b, b < zN c → a ≠ b → (zT c a).2.1 ≠ (zT c b).2.1 := by decide +kernel
theorem z_dc : ∀ c, c < 13 → ∀ k, k < zN c → (zT c k).1 = zCN c := by decide +kernel
theorem z_fld {o ix a b : Nat} (h : zfcp.any (fun q => Nat.beq q.1 o && Nat.beq q.2.1 ix && Nat.beq q.2.2.1 a && Nat.beq q.2.2.2.1 b) = true) : a < 13 ∧ b < zN a ∧ zwF o ix a b ∈ zW := by
  obtain ⟨q, hq, hh⟩ := List.any_eq_true.mp h
  simp only [Bool.and_eq_true, Nat.beq_eq] at hh
  obtain ⟨⟨⟨rfl, rfl⟩, rfl⟩, rfl⟩ := hh
  have h1 := List.all_eq_true.mp zfcp_ok q hq
  simp only [Bool.and_eq_true, decide_eq_true_eq] at h1
  exact ⟨h1.1.1, h1.1.2, zTab_mem h1.2⟩
theorem acv_def {b0 : Nat} {ea : Nat → Nat} (ty : FieldType) : acv b0 ea (defaultValue ty) = defaultValue ty := by cases ty <;> rfl
theorem aok_n {b0 : Nat} {ea : Nat → Nat} {ty : FieldType} {v : Value} (h : aok ty v = true) : narrow ty (acv b0 ea v) = acv b0 ea v ∧ fits ty (acv b0 ea v) = true := by
  cases ty <;> cases v <;> first
    | exact ⟨rfl, rfl⟩
    | (cases h; done)
    | (rename_i x
       simp only [aok, Bool.or_eq_true, beq_iff_eq] at h
       rcases h with rfl | rfl <;> exact ⟨rfl, rfl⟩)
theorem aW_sz {p : Program} {l : Launch} {e : Env} {R : Room} {s : State} {m : MethodId} {args : Array Value} {below : List Frame} {meth : Method} {c : Code} {H : Heap} {locs : List Loc} {cells slots : Nat} {Q : State → Prop} {g : JFrame}
    (k : H.size ≤ s.heap.size + cells → W p l e R s m args below meth c H locs cells slots Q g) : W p l e R s m args below meth c H locs cells slots Q g := fun T hT X => k (by rw [← hT]; exact X.heapSize) T hT X
theorem awd_len {b0 : Nat} {ea : Nat → Nat} {cA : Nat → ClassId} {σ : List aC} : (awd b0 ea cA σ).length = σ.length := by simp [awd]
theorem aq_eq {b0 q : Nat} {ea : Nat → Nat} {cA : Nat → ClassId} {σ : List aC} {D : va_G} {cl : List vw_C} {e : va_E} {H1 : Heap} (hP : va_P D cl (awd b0 ea cA σ ++ [(q, e)]) H1) (hD : va_D (fun q => b0 ≤ q) (awd b0 ea cA σ ++ [(q, e)])) (hz : H1.size ≤ b0 + σ.length + 1) : q = b0 + σ.length := by
  have hg : (awd b0 ea cA σ ++ [(q, e)])[σ.length]? = some (q, e) := by
    rw [List.getElem?_append_right (by rw [awd_len]; exact Nat.le_refl _), awd_len]
    simp
  have h1 : b0 ≤ q := hD.2 σ.length (q, e) hg
  have h2 : q < H1.size := (hP σ.length (q, e) hg).lt
  have h3 : ∀ k, k < σ.length → q ≠ b0 + k := by
    intro k hk he
    have hg2 : (awd b0 ea cA σ ++ [(q, e)])[k]? = some (b0 + k, acc b0 ea cA σ[k]) := by
      rw [List.getElem?_append_left (by rw [awd_len]; exact hk)]
      exact awd_get (List.getElem?_eq_getElem hk)
    have := hD.1 k σ.length _ _ hg2 hg he.symm
    omega
  by_cases hlt : q < b0 + σ.length
  · exact absurd (by omega) (h3 (q - b0) (by omega))
  · omega
theorem arf_map {b0 : Nat} {ea : Nat → Nat} (x : Option Nat) : va_rf (x.map (fun k => b0 + k)) = acv b0 ea (arf x) := by cases x <;> rfl
section BZ
variable {Γ : aGm} {pc : Nat} {L : aL} {r : List Value} {h : aH}
theorem s_get {o ix a b : Nat} {fs : List Value} {v : Value} (ho : h.1[o]? = some (.inr (a, fs))) (hf : a < 13 ∧ b < zN a ∧ zwF (aown Γ) ix a b ∈ zW) (hv : fs[b]? = some v) (C : aCF Γ) (hd : aDC Γ pc (.getfield ix) 3) (k : aSW Γ (pc + 3) L (v :: r) h) : aSW Γ pc L (.ref o :: r) h := by
  obtain ⟨p, l, e, R, s, m, args, below, meth, c, Q, cc, nL, b0, n0, u0, own, kind, D, cA, ea, X⟩ := Γ
  intro H locs ls cells slots e1 e2 hP hS hl
  obtain ⟨hx, hb, hml, hown, hts, hKX, hsz, hki⟩ := C
  obtain ⟨ha, hb2, hw⟩ := hf
  exact va_get (C := zCN a) (T := zT a) (N := zN a) (ref := (zT a b).1) (v := acv b0 ea v) hx hb hts (z_uws ha) hown hKX.1 hP o (show (awd b0 ea cA h.1)[o]? = some (b0 + o, .inr (a, fs.map (acv b0 ea))) from awd_get ho) (zCl_get ha) b hb2 (hts _ hw) (fun _ h9 => h9) (by rw [List.getElem?_map, hv]; rfl) hd (k H locs ls cells slots e1 e2 hP hS hl)
theorem s_put {o ix a b : Nat} {fs : List Value} {v : Value} (ho : h.1[o]? = some (.inr (a, fs))) (hf : a < 13 ∧ b < zN a ∧ zwF (aown Γ) ix a b ∈ zW) (hfin : (zT a b).2.2.2 = false) (hv : aok (zY a b) v = true) (hlt : b < fs.length) (C : aCF Γ) (hd : aDC Γ pc (.putfield ix) 3) (k : aSW Γ (pc + 3) L r (h.1.set o (.inr (a, fs.set b v)), h.2)) : aSW Γ pc L (v :: .ref o :: r) h := by
  obtain ⟨p, l, e, R, s, m, args, below, meth, c, Q, cc, nL, b0, n0, u0, own, kind, D, cA, ea, X⟩ := Γ
  intro H locs ls cells slots e1 e2 hP hS hl
  obtain ⟨hx, hb, hml, hown, hts, hKX, hsz, hki⟩ := C
  obtain ⟨ha, hb2, hw⟩ := hf
  obtain ⟨hn, hfit⟩ := aok_n (b0 := b0) (ea := ea) hv
  refine va_put (C := zCN a) (T := zT a) (N := zN a) (ref := (zT a b).1) (v := acv b0 ea v) hx hb hts (z_uws ha) (zY a) (z_ty a ha) (z_nm a ha) hown hKX.1 hP awd_D hS o (show (awd b0 ea cA h.1)[o]? = some (b0 + o, .inr (a, fs.map (acv b0 ea))) from awd_get ho) (zCl_get ha) b hb2 (hts _ hw) (fun _ h9 => h9) hfin (z_ty a ha b hb2) hn hfit (by rw [List.length_map]; exact hlt) hd (fun H1 locs1 hP1 hD1 hS1 => ?_)
  refine k H1 locs1 ls cells slots (by rw [List.length_set]; exact e1) e2 ?_ hS1 hl
  rw [← awd_set]
  show va_P D zCl ((awd b0 ea cA h.1).set o (b0 + o, .inr (a, (fs.set b v).map (acv b0 ea)))) H1
  rw [List.map_set]
  exact hP1
theorem s_putF {o ix a b : Nat} {fs : List Value} {v : Value} (ho : h.1[o]? = some (.inr (a, fs))) (hf : a < 13 ∧ b < zN a ∧ zwF (aown Γ) ix a b ∈ zW) (hfin : (zT a b).2.2.2 = true) (hk2 : akind Γ = 2) (ho2 : aown Γ = a) (hv : aok (zY a b) v = true) (hlt : b < fs.length) (C : aCF Γ) (hd : aDC Γ pc (.putfield ix) 3) (k : aSW Γ (pc + 3) L r (h.1.set o (.inr (a, fs.set b v)), h.2)) : aSW Γ pc L (v :: .ref o :: r) h := by
  obtain ⟨p, l, e, R, s, m, args, below, meth, c, Q, cc, nL, b0, n0, u0, own, kind, D, cA, ea, X⟩ := Γ
  intro H locs ls cells slots e1 e2 hP hS hl
  obtain ⟨hx, hb, hml, hown, hts, hKX, hsz, hki⟩ := C
  obtain ⟨ha, hb2, hw⟩ := hf
  obtain ⟨hn, hfit⟩ := aok_n (b0 := b0) (ea := ea) hv
  refine va_putF (C := zCN a) (T := zT a) (N := zN a) (ref := (zT a b).1) (v := acv b0 ea v) hx hb hts (z_uws ha) (zY a) (z_ty a ha) (z_nm a ha) hown hKX.1 hP awd_D hS o (show (awd b0 ea cA h.1)[o]? = some (b0 + o, .inr (a, fs.map (acv b0 ea))) from awd_get ho) (zCl_get ha) b hb2 (hts _ hw) (fun _ h9 => h9) hfin (hki hk2) ((z_dc a ha b hb2).trans (congrArg zCN ho2.symm)) (z_ty a ha b hb2) hn hfit (by rw [List.length_map]; exact hlt) hd (fun H1 locs1 hP1 hD1 hS1 => ?_)
  refine k H1 locs1 ls cells slots (by rw [List.length_set]; exact e1) e2 ?_ hS1 hl
  rw [← awd_set]
  show va_P D zCl ((awd b0 ea cA h.1).set o (b0 + o, .inr (a, (fs.set b v).map (acv b0 ea)))) H1
  rw [List.map_set]
  exact hP1
theorem s_iald {o n : Nat} {j : Int32} {f : Nat → Int32} (ho : h.1[o]? = some (.inl (0, n, .inl f))) (hj : ¬ (j < 0 ∨ n ≤ j.toNatClampNeg)) (C : aCF Γ) (hd : aDC Γ pc .iaload 1) (k : aSW Γ (pc + 1) L (.int (f j.toNatClampNeg) :: r) h) : aSW Γ pc L (.int j :: .ref o :: r) h := by
  obtain ⟨p, l, e, R, s, m, args, below, meth, c, Q, cc, nL, b0, n0, u0, own, kind, D, cA, ea, X⟩ := Γ
  intro H locs ls cells slots e1 e2 hP hS hl
  obtain ⟨hx, hb, hml, hown, hts, hKX, hsz, hki⟩ := C
  exact va_iald hx hb hKX.1 hP o 0 (show (awd b0 ea cA h.1)[o]? = some (b0 + o, .inl (cA 0, n, .inl f)) from awd_get ho) rfl hj hd (k H locs ls cells slots e1 e2 hP hS hl)
theorem s_zald {o n : Nat} {j : Int32} {f : Nat → Int32} (ho : h.1[o]? = some (.inl (2, n, .inl f))) (hj : ¬ (j < 0 ∨ n ≤ j.toNatClampNeg)) (C : aCF Γ) (hd : aDC Γ pc .baload 1) (k : aSW Γ (pc + 1) L (.int (f j.toNatClampNeg) :: r) h) : aSW Γ pc L (.int j :: .ref o :: r) h := by
  obtain ⟨p, l, e, R, s, m, args, below, meth, c, Q, cc, nL, b0, n0, u0, own, kind, D, cA, ea, X⟩ := Γ
  intro H locs ls cells slots e1 e2 hP hS hl
  obtain ⟨hx, hb, hml, hown, hts, hKX, hsz, hki⟩ := C
  exact va_zald hx hb hKX.1 hP o 2 (show (awd b0 ea cA h.1)[o]? = some (b0 + o, .inl (cA 2, n, .inl f)) from awd_get ho) rfl hj hd (k H locs ls cells slots e1 e2 hP hS hl)
theorem s_bald {o n : Nat} {j : Int32} {f : Nat → Int32} (ho : h.1[o]? = some (.inl (3, n, .inl f))) (hj : ¬ (j < 0 ∨ n ≤ j.toNatClampNeg)) (C : aCF Γ) (hd : aDC Γ pc .baload 1) (k : aSW Γ (pc + 1) L (.int (f j.toNatClampNeg) :: r) h) : aSW Γ pc L (.int j :: .ref o :: r) h := by
  obtain ⟨p, l, e, R, s, m, args, below, meth, c, Q, cc, nL, b0, n0, u0, own, kind, D, cA, ea, X⟩ := Γ
  intro H locs ls cells slots e1 e2 hP hS hl
  obtain ⟨hx, hb, hml, hown, hts, hKX, hsz, hki⟩ := C
  exact va_bald hx hb hKX.1 hP o 3 (show (awd b0 ea cA h.1)[o]? = some (b0 + o, .inl (cA 3, n, .inl f)) from awd_get ho) rfl hj hd (k H locs ls cells slots e1 e2 hP hS hl)
theorem s_lald {o n : Nat} {j : Int32} {f : Nat → Int64} (ho : h.1[o]? = some (.inl (1, n, .inr (.inl f)))) (hj : ¬ (j < 0 ∨ n ≤ j.toNatClampNeg)) (C : aCF Γ) (hd : aDC Γ pc .laload 1) (k : aSW Γ (pc + 1) L (.long (f j.toNatClampNeg) :: r) h) : aSW Γ pc L (.int j :: .ref o :: r) h := by
  obtain ⟨p, l, e, R, s, m, args, below, meth, c, Q, cc, nL, b0, n0, u0, own, kind, D, cA, ea, X⟩ := Γ
  intro H locs ls cells slots e1 e2 hP hS hl
  obtain ⟨hx, hb, hml, hown, hts, hKX, hsz, hki⟩ := C
  exact va_lald hx hb hKX.1 hP o 1 (show (awd b0 ea cA h.1)[o]? = some (b0 + o, .inl (cA 1, n, .inr (.inl f))) from awd_get ho) rfl hj hd (k H locs ls cells slots e1 e2 hP hS hl)
theorem s_aald4 {o n : Nat} {j : Int32} {f : Nat → Option Nat} (ho : h.1[o]? = some (.inl (4, n, .inr (.inr (.inr (.inr f)))))) (hj : ¬ (j < 0 ∨ n ≤ j.toNatClampNeg)) (C : aCF Γ) (hd : aDC Γ pc .aaload 1) (k : aSW Γ (pc + 1) L (arf (f j.toNatClampNeg) :: r) h) : aSW Γ pc L (.int j :: .ref o :: r) h := by
  obtain ⟨p, l, e, R, s, m, args, below, meth, c, Q, cc, nL, b0, n0, u0, own, kind, D, cA, ea, X⟩ := Γ
  intro H locs ls cells slots e1 e2 hP hS hl
  obtain ⟨hx, hb, hml, hown, hts, hKX, hsz, hki⟩ := C
  refine va_aldq hx hb hKX.1 hP o 4 (show (awd b0 ea cA h.1)[o]? = some (b0 + o, .inl (cA 4, n, .inr (.inr (.inr (.inr (fun i => (f i).map (fun k => b0 + k))))))) from awd_get ho) rfl hj hd ?_
  have e : va_rf ((f j.toNatClampNeg).map (fun k => b0 + k)) = acv b0 ea (arf (f j.toNatClampNeg)) := arf_map _
  rw [e]
  exact k H locs ls cells slots e1 e2 hP hS hl
theorem s_aald5 {o n : Nat} {j : Int32} {f : Nat → Option Nat} (ho : h.1[o]? = some (.inl (5, n, .inr (.inr (.inr (.inr f)))))) (hj : ¬ (j < 0 ∨ n ≤ j.toNatClampNeg)) (C : aCF Γ) (hd : aDC Γ pc .aaload 1) (k : aSW Γ (pc + 1) L (arf (f j.toNatClampNeg) :: r) h) : aSW Γ pc L (.int j :: .ref o :: r) h := by
  obtain ⟨p, l, e, R, s, m, args, below, meth, c, Q, cc, nL, b0, n0, u0, own, kind, D, cA, ea, X⟩ := Γ
  intro H locs ls cells slots e1 e2 hP hS hl
  obtain ⟨hx, hb, hml, hown, hts, hKX, hsz, hki⟩ := C
  have hlt : j.toNatClampNeg < n := Nat.not_le.mp fun q => hj (Or.inr q)
  have hc := hP o _ (show (awd b0 ea cA h.1)[o]? = some (b0 + o, .inl (cA 5, n, .inr (.inr (.inr (.inr (fun i => (f i).map (fun k => b0 + k))))))) from awd_get ho)
  exact W.aald (v := acv b0 ea (arf (f j.toNatClampNeg))) (ty := .array .int) hx hb hc ((hKX.1.2 5 _ rfl).1 n (fun j => va_rf ((f j).map (fun k => b0 + k)))) rfl (fun q => by cases q) (by show ¬ (j < 0 ∨ (arrV _ _ _).slots.size ≤ _); rw [arrV_size]; exact hj) (by show (arrV _ _ _).slots[_]? = _; rw [arrV_read _ _ hlt, arf_map (ea := ea)]) rfl rfl hd (k H locs ls cells slots e1 e2 hP hS hl)
theorem s_iast {o n : Nat} {j : Int32} {x : Int32} {f : Nat → Int32} (ho : h.1[o]? = some (.inl (0, n, .inl f))) (hj : ¬ (j < 0 ∨ n ≤ j.toNatClampNeg)) (C : aCF Γ) (hd : aDC Γ pc .iastore 1) (k : aSW Γ (pc + 1) L r (h.1.set o (.inl (0, n, .inl (upd f j.toNatClampNeg x))), h.2)) : aSW Γ pc L (.int x :: .int j :: .ref o :: r) h := by
  obtain ⟨p, l, e, R, s, m, args, below, meth, c, Q, cc, nL, b0, n0, u0, own, kind, D, cA, ea, X⟩ := Γ
  intro H locs ls cells slots e1 e2 hP hS hl
  obtain ⟨hx, hb, hml, hown, hts, hKX, hsz, hki⟩ := C
  refine va_iast hx hb hKX.1 hP awd_D hS o 0 (show (awd b0 ea cA h.1)[o]? = some (b0 + o, .inl (cA 0, n, .inl f)) from awd_get ho) rfl hj hd (fun H1 locs1 hP1 hD1 hS1 => ?_)
  refine k H1 locs1 ls cells slots (by rw [List.length_set]; exact e1) e2 ?_ hS1 hl
  rw [← awd_set]
  exact hP1
theorem s_zast {o n : Nat} {j : Int32} {x : Int32} {f : Nat → Int32} (ho : h.1[o]? = some (.inl (2, n, .inl f))) (hj : ¬ (j < 0 ∨ n ≤ j.toNatClampNeg)) (C : aCF Γ) (hd : aDC Γ pc .bastore 1) (k : aSW Γ (pc + 1) L r (h.1.set o (.inl (2, n, .inl (upd f j.toNatClampNeg (x &&& 1)))), h.2)) : aSW Γ pc L (.int x :: .int j :: .ref o :: r) h := by
  obtain ⟨p, l, e, R, s, m, args, below, meth, c, Q, cc, nL, b0, n0, u0, own, kind, D, cA, ea, X⟩ := Γ
  intro H locs ls cells slots e1 e2 hP hS hl
  obtain ⟨hx, hb, hml, hown, hts, hKX, hsz, hki⟩ := C
  refine va_zast hx hb hKX.1 hP awd_D hS o 2 (show (awd b0 ea cA h.1)[o]? = some (b0 + o, .inl (cA 2, n, .inl f)) from awd_get ho) rfl hj hd (fun H1 locs1 hP1 hD1 hS1 => ?_)
  refine k H1 locs1 ls cells slots (by rw [List.length_set]; exact e1) e2 ?_ hS1 hl
  rw [← awd_set]
  exact hP1
theorem s_bast {o n : Nat} {j : Int32} {x : Int32} {f : Nat → Int32} (ho : h.1[o]? = some (.inl (3, n, .inl f))) (hj : ¬ (j < 0 ∨ n ≤ j.toNatClampNeg)) (C : aCF Γ) (hd : aDC Γ pc .bastore 1) (k : aSW Γ (pc + 1) L r (h.1.set o (.inl (3, n, .inl (upd f j.toNatClampNeg x.toInt8.toInt32))), h.2)) : aSW Γ pc L (.int x :: .int j :: .ref o :: r) h := by
  obtain ⟨p, l, e, R, s, m, args, below, meth, c, Q, cc, nL, b0, n0, u0, own, kind, D, cA, ea, X⟩ := Γ
  intro H locs ls cells slots e1 e2 hP hS hl
  obtain ⟨hx, hb, hml, hown, hts, hKX, hsz, hki⟩ := C
  refine va_bast hx hb hKX.1 hP awd_D hS o 3 (show (awd b0 ea cA h.1)[o]? = some (b0 + o, .inl (cA 3, n, .inl f)) from awd_get ho) rfl hj hd (fun H1 locs1 hP1 hD1 hS1 => ?_)
  refine k H1 locs1 ls cells slots (by rw [List.length_set]; exact e1) e2 ?_ hS1 hl
  rw [← awd_set]
  exact hP1
theorem s_last {o n : Nat} {j : Int32} {x : Int64} {f : Nat → Int64} (ho : h.1[o]? = some (.inl (1, n, .inr (.inl f)))) (hj : ¬ (j < 0 ∨ n ≤ j.toNatClampNeg)) (C : aCF Γ) (hd : aDC Γ pc .lastore 1) (k : aSW Γ (pc + 1) L r (h.1.set o (.inl (1, n, .inr (.inl (vp_updL f j.toNatClampNeg x)))), h.2)) : aSW Γ pc L (.long x :: .int j :: .ref o :: r) h := by
  obtain ⟨p, l, e, R, s, m, args, below, meth, c, Q, cc, nL, b0, n0, u0, own, kind, D, cA, ea, X⟩ := Γ
  intro H locs ls cells slots e1 e2 hP hS hl
  obtain ⟨hx, hb, hml, hown, hts, hKX, hsz, hki⟩ := C
  refine va_last hx hb hKX.1 hP awd_D hS o 1 (show (awd b0 ea cA h.1)[o]? = some (b0 + o, .inl (cA 1, n, .inr (.inl f))) from awd_get ho) rfl hj hd (fun H1 locs1 hP1 hD1 hS1 => ?_)
  refine k H1 locs1 ls cells slots (by rw [List.length_set]; exact e1) e2 ?_ hS1 hl
  rw [← awd_set]
  exact hP1
theorem s_aast {o n q : Nat} {j : Int32} {f : Nat → Option Nat} {fs : List Value} (ho : h.1[o]? = some (.inl (4, n, .inr (.inr (.inr (.inr f)))))) (hq : h.1[q]? = some (.inr (8, fs))) (hj : ¬ (j < 0 ∨ n ≤ j.toNatClampNeg)) (C : aCF Γ) (hd : aDC Γ pc .aastore 1) (k : aSW Γ (pc + 1) L r (h.1.set o (.inl (4, n, .inr (.inr (.inr (.inr (va_up f j.toNatClampNeg (some q))))))), h.2)) : aSW Γ pc L (.ref q :: .int j :: .ref o :: r) h := by
  obtain ⟨p, l, e, R, s, m, args, below, meth, c, Q, cc, nL, b0, n0, u0, own, kind, D, cA, ea, X⟩ := Γ
  intro H locs ls cells slots e1 e2 hP hS hl
  obtain ⟨hx, hb, hml, hown, hts, hKX, hsz, hki⟩ := C
  refine va_astq (r := (zCN 8, zT 8, zN 8)) (vs := fs.map (acv b0 ea)) hx hb hKX.1 hP awd_D hS o 4 q 8 (show (awd b0 ea cA h.1)[o]? = some (b0 + o, .inl (cA 4, n, .inr (.inr (.inr (.inr (fun i => (f i).map (fun k => b0 + k))))))) from awd_get ho) rfl (show (awd b0 ea cA h.1)[q]? = some (b0 + q, .inr (8, fs.map (acv b0 ea))) from awd_get hq) (zCl_get (by decide)) hj hd (fun H1 locs1 hP1 hD1 hS1 => ?_)
  refine k H1 locs1 ls cells slots (by rw [List.length_set]; exact e1) e2 ?_ hS1 hl
  rw [← awd_set]
  have e : (fun i => (va_up f j.toNatClampNeg (some q) i).map (fun k => b0 + k)) = va_up (fun i => (f i).map (fun k => b0 + k)) j.toNatClampNeg (some (b0 + q)) := by
    funext i
    unfold va_up
    split <;> rfl
  show va_P D zCl ((awd b0 ea cA h.1).set o (b0 + o, .inl (cA 4, n, .inr (.inr (.inr (.inr (fun i => (va_up f j.toNatClampNeg (some q) i).map (fun k => b0 + k)))))))) H1
  rw [e]
  exact hP1
theorem s_aast5 {o n q n' : Nat} {j : Int32} {f : Nat → Option Nat} {g : Nat → Int32} (ho : h.1[o]? = some (.inl (5, n, .inr (.inr (.inr (.inr f)))))) (hq : h.1[q]? = some (.inl (0, n', .inl g))) (hj : ¬ (j < 0 ∨ n ≤ j.toNatClampNeg)) (C : aCF Γ) (hd : aDC Γ pc .aastore 1) (k : aSW Γ (pc + 1) L r (h.1.set o (.inl (5, n, .inr (.inr (.inr (.inr (va_up f j.toNatClampNeg (some q))))))), h.2)) : aSW Γ pc L (.ref q :: .int j :: .ref o :: r) h := by
  obtain ⟨p, l, e, R, s, m, args, below, meth, c, Q, cc, nL, b0, n0, u0, own, kind, D, cA, ea, X⟩ := Γ
  intro H locs ls cells slots e1 e2 hP hS hl
  obtain ⟨hx, hb, hml, hown, hts, hKX, hsz, hki⟩ := C
  have ha : (awd b0 ea cA h.1)[o]? = some (b0 + o, .inl (cA 5, n, .inr (.inr (.inr (.inr (fun i => (f i).map (fun k => b0 + k))))))) := awd_get ho
  have hv : (awd b0 ea cA h.1)[q]? = some (b0 + q, .inl (cA 0, n', .inl g)) := awd_get hq
  have hlt : j.toNatClampNeg < n := Nat.not_le.mp fun q => hj (Or.inr q)
  have h0 : ¬ j < 0 := fun q => hj (Or.inl q)
  obtain ⟨comp, c5, k5, q1, q2, q3, q4, q5⟩ := arrayOverA_spec hKX.2.2.2.2.2.2.1
  have r5 : s.vm.findClass ("[" ++ (FieldType.array .int).toString) = some (cA 5) := (hKX.1.2 5 _ rfl).2
  have r0 : s.vm.findClass ("[" ++ FieldType.int.toString) = some (cA 0) := (hKX.1.2 0 _ rfl).2
  have z5 : c5 = cA 5 := Option.some.inj (q5.symm.trans r5)
  have z0 : comp = cA 0 := Option.some.inj (q1.symm.trans r0)
  subst z0
  rw [z5] at q3
  obtain ⟨-, k0, kk0, comp0, kkind0⟩ := (hKX.1.2 0 _ rfl).1 n' (fun j => .int (g j))
  refine W.aast hx hb (hP o _ ha) (fun q h => by cases h) (fun h => by cases h) q3 q4 rfl kk0 ⟨h0, by show _ < (arrV _ _ _).slots.size; rw [arrV_size]; exact hlt⟩ (hP q _ hv) (fun q h => by cases h) kk0 (Vm.assignable_self _ _) rfl rfl hd fun H1 eH zH oq => ?_
  have hP1 : va_P D zCl ((awd b0 ea cA h.1).set o (b0 + o, .inl (cA 5, n, .inr (.inr (.inr (.inr (va_up (fun i => (f i).map (fun k => b0 + k)) j.toNatClampNeg (some (b0 + q))))))))) H1 := by
    refine hP.set awd_D ha ?_ oq
    show H1[b0 + o]? = some (vp_cell _ _)
    rw [eH]
    rw [vp_cell_q, vp_cell_q, arrV_store]
    congr 2
    funext q
    by_cases hq : q = j.toNatClampNeg
    · subst hq
      simp [updV, va_up, va_rf]
    · simp [updV, va_up, hq]
  refine k H1 _ ls cells slots (by rw [List.length_set]; exact e1) e2 ?_ (hS.put zH oq (awd_D.2 o _ ha)) hl
  rw [← awd_set]
  have e : (fun i => (va_up f j.toNatClampNeg (some q) i).map (fun k => b0 + k)) = va_up (fun i => (f i).map (fun k => b0 + k)) j.toNatClampNeg (some (b0 + q)) := by
    funext i
    unfold va_up
    split <;> rfl
  show va_P D zCl ((awd b0 ea cA h.1).set o (b0 + o, .inl (cA 5, n, .inr (.inr (.inr (.inr (fun i => (va_up f j.toNatClampNeg (some q) i).map (fun k => b0 + k)))))))) H1
  rw [e]
  exact hP1
theorem s_alen {o n : Nat} {f : (Nat → Int32) ⊕ (Nat → Int64) ⊕ (Nat → UInt32) ⊕ (Nat → UInt64) ⊕ (Nat → Option Nat)} (ho : h.1[o]? = some (.inl (0, n, f))) (C : aCF Γ) (hd : aDC Γ pc .arraylength 1) (k : aSW Γ (pc + 1) L (.int (Int32.ofNat n) :: r) h) : aSW Γ pc L (.ref o :: r) h := by
  obtain ⟨p, l, e, R, s, m, args, below, meth, c, Q, cc, nL, b0, n0, u0, own, kind, D, cA, ea, X⟩ := Γ
  intro H locs ls cells slots e1 e2 hP hS hl
  obtain ⟨hx, hb, hml, hown, hts, hKX, hsz, hki⟩ := C
  have e : (acA b0 (n, f)).1 = n := by
    rcases f with f | f | f | f | f <;> rfl
  exact va_alen hx hb hKX.1 hP o 0 (show (awd b0 ea cA h.1)[o]? = some (b0 + o, .inl (cA 0, acA b0 (n, f))) from awd_get ho) rfl (by rw [e]) hd (k H locs ls cells slots e1 e2 hP hS hl)
theorem s_alen1 {o n : Nat} {f : (Nat → Int32) ⊕ (Nat → Int64) ⊕ (Nat → UInt32) ⊕ (Nat → UInt64) ⊕ (Nat → Option Nat)} (ho : h.1[o]? = some (.inl (1, n, f))) (C : aCF Γ) (hd : aDC Γ pc .arraylength 1) (k : aSW Γ (pc + 1) L (.int (Int32.ofNat n) :: r) h) : aSW Γ pc L (.ref o :: r) h := by
  obtain ⟨p, l, e, R, s, m, args, below, meth, c, Q, cc, nL, b0, n0, u0, own, kind, D, cA, ea, X⟩ := Γ
  intro H locs ls cells slots e1 e2 hP hS hl
  obtain ⟨hx, hb, hml, hown, hts, hKX, hsz, hki⟩ := C
  have e : (acA b0 (n, f)).1 = n := by
    rcases f with f | f | f | f | f <;> rfl
  exact va_alen hx hb hKX.1 hP o 1 (show (awd b0 ea cA h.1)[o]? = some (b0 + o, .inl (cA 1, acA b0 (n, f))) from awd_get ho) rfl (by rw [e]) hd (k H locs ls cells slots e1 e2 hP hS hl)
theorem s_xld {x n : Nat} {j : Int32} {f : Nat → Int32} (hX : aXX Γ x = some (n, f)) (hj : ¬ (j < 0 ∨ n ≤ j.toNatClampNeg)) (C : aCF Γ) (hd : aDC Γ pc .iaload 1) (k : aSW Γ (pc + 1) L (.int (f j.toNatClampNeg) :: r) h) : aSW Γ pc L (.int j :: .retAddr x :: r) h := by
  obtain ⟨p, l, e, R, s, m, args, below, meth, c, Q, cc, nL, b0, n0, u0, own, kind, D, cA, ea, X⟩ := Γ
  intro H locs ls cells slots e1 e2 hP hS hl
  obtain ⟨hx, hb, hml, hown, hts, hKX, hsz, hki⟩ := C
  exact va_ti hx hb (hKX.2.1 x n f hX) hS hj rfl hd (k H locs ls cells slots e1 e2 hP hS hl)
theorem s_xlen {x n : Nat} {f : Nat → Int32} (hX : aXX Γ x = some (n, f)) (C : aCF Γ) (hd : aDC Γ pc .arraylength 1) (k : aSW Γ (pc + 1) L (.int (Int32.ofNat n) :: r) h) : aSW Γ pc L (.retAddr x :: r) h := by
  obtain ⟨p, l, e, R, s, m, args, below, meth, c, Q, cc, nL, b0, n0, u0, own, kind, D, cA, ea, X⟩ := Γ
  intro H locs ls cells slots e1 e2 hP hS hl
  obtain ⟨hx, hb, hml, hown, hts, hKX, hsz, hki⟩ := C
  obtain ⟨cell, h1, h2, h3, h4, h5, h6, h7⟩ := hKX.2.1 x n f hX
  exact W.alen hx hb (by rw [hS.2.1 _ (Array.getElem?_eq_some_iff.mp h1).1 h7]; exact h1) h2 h5 rfl rfl hd (k H locs ls cells slots e1 e2 hP hS hl)
theorem s_gets (ho6 : aown Γ = 6) (C : aCF Γ) (hd : aDC Γ pc (.getstatic 49) 3) (k : aSW Γ (pc + 3) L (.retAddr 0 :: r) h) : aSW Γ pc L r h := by
  obtain ⟨p, l, e, R, s, m, args, below, meth, c, Q, cc, nL, b0, n0, u0, own, kind, D, cA, ea, X⟩ := Γ
  intro H locs ls cells slots e1 e2 hP hS hl
  obtain ⟨hx, hb, hml, hown, hts, hKX, hsz, hki⟩ := C
  have ho6 : own = 6 := ho6
  subst ho6
  exact va_getsN hx hb hKX.2.2.1 hS hown (va_Nw.use rfl hKX.2.2.2.2.1) (fun _ h9 => h9) hd (k H locs ls cells slots e1 e2 hP hS hl)
theorem s_new {ix a : Nat} (ha : a < 13) (hcl : Cond.classLink (zCN (aown Γ)) ix (zCN a) ∈ zW) (hins : Cond.instantiable (zCN a) (zN a) ∈ zW) (hini : Cond.initialized (zCN a) ∈ zW) (hR : aRM Γ (h.1 ++ [.inr (a, (List.range (zN a)).map (fun c => defaultValue (zY a c)))], h.2 + zN a)) (C : aCF Γ) (hd : aDC Γ pc (.new ix) 3)
    (k : aSW Γ (pc + 3) L (.ref h.1.length :: r) (h.1 ++ [.inr (a, (List.range (zN a)).map (fun c => defaultValue (zY a c)))], h.2 + zN a)) : aSW Γ pc L r h := by
  obtain ⟨p, l, e, R, s, m, args, below, meth, c, Q, cc, nL, b0, n0, u0, own, kind, D, cA, ea, X⟩ := Γ
  intro H locs ls cells slots e1 e2 hP hS hl
  obtain ⟨hx, hb, hml, hown, hts, hKX, hsz, hki⟩ := C
  obtain ⟨hR1, hR2⟩ := hR
  rw [List.length_append] at hR1
  simp only [List.length_cons, List.length_nil] at hR1
  dsimp only at hR2
  refine va_new (C := zCN a) (T := zT a) (N := zN a) (ci := a) (fs := ((List.range (zN a)).map (fun c => defaultValue (zY a c))).map (acv b0 ea)) hx hb hts (z_uws ha) (zY a) (z_ty a ha) hown (hts _ hcl) (hts _ hins) (hts _ hini) hKX.1 hP awd_D hS (fun q hq => by rw [hsz] at hq; exact Nat.le_trans (Nat.le_add_right _ _) hq) (zCl_get ha) (fun j hj => by simp [vp_V, hj, acv_def]) (by omega) (by omega) hd (fun q H1 hP1 hD1 hS1 => aW_sz (fun hz => ?_))
  have hq : q = b0 + h.1.length := aq_eq hP1 hD1 (by omega)
  subst hq
  refine k H1 locs ls (cells + 1) (slots + zN a) (by rw [List.length_append]; simp only [List.length_cons, List.length_nil]; omega) (by dsimp only; omega) ?_ hS1 hl
  rw [awd_push]
  exact hP1
theorem s_newa {t : Nat} {at' : ArrayType} {x : Int32} (hat : zTy t = some at') (hx0 : ¬ (x < 0 ∨ 100000 < x)) (har : Cond.arrayClass (newarray.typeOf at') ∈ zW) (hR : aRM Γ (h.1 ++ [.inl (t, x.toNatClampNeg, azero t)], h.2 + x.toNatClampNeg)) (C : aCF Γ) (hd : aDC Γ pc (.newarray at') 2)
    (k : aSW Γ (pc + 2) L (.ref h.1.length :: r) (h.1 ++ [.inl (t, x.toNatClampNeg, azero t)], h.2 + x.toNatClampNeg)) : aSW Γ pc L (.int x :: r) h := by
  obtain ⟨p, l, e, R, s, m, args, below, meth, c, Q, cc, nL, b0, n0, u0, own, kind, D, cA, ea, X⟩ := Γ
  intro H locs ls cells slots e1 e2 hP hS hl
  obtain ⟨hx, hb, hml, hown, hts, hKX, hsz, hki⟩ := C
  obtain ⟨hR1, hR2⟩ := hR
  rw [List.length_append] at hR1
  simp only [List.length_cons, List.length_nil] at hR1
  dsimp only at hR2
  have hn : ¬ x < 0 := fun q => hx0 (Or.inl q)
  have hN : x.toNatClampNeg ≤ 100000 := by
    have h2 : ¬ 100000 < x := fun q => hx0 (Or.inr q)
    have h3 : x.toInt ≤ 100000 := by
      have := Int32.not_lt.mp h2
      exact Int32.le_iff_toInt_le.mp this
    have h4 : x.toNatClampNeg = x.toInt.toNat := rfl
    omega
  have key : ∀ (ty : FieldType), newarray.typeOf at' = ty → componentBytes ty ≤ 8 → (∀ cA' : ClassId, vp_cell cA' (x.toNatClampNeg, azero t) = arrV cA' x.toNatClampNeg (fun _ => defaultValue ty)) → (atys cA)[t]? = some (cA t, ty) → (∀ cA' : ClassId, va_RA s cA' ty → cA' = cA t) → acA b0 (x.toNatClampNeg, azero t) = (x.toNatClampNeg, azero t) → W p l e R s m args below meth c H locs cells slots Q (F0 m pc ls (.int x :: r.map (acv b0 ea))) := by
    intro ty hty hcb hvc hti hun hac
    refine va_newa (atype := at') (ty := ty) (a0 := (x.toNatClampNeg, azero t)) hx hb (hts _ har) hty hKX.1 hP awd_D hS (fun q hq => by rw [hsz] at hq; exact Nat.le_trans (Nat.le_add_right _ _) hq) hvc hn rfl (Nat.le_trans (Nat.mul_le_mul hN hcb) (by decide)) (by omega) (by omega) hd (fun q cA' H1 hK1 hP1 hD1 hS1 => aW_sz (fun hz => ?_))
    have hq : q = b0 + h.1.length := aq_eq hP1 hD1 (by omega)
    subst hq
    have hc : cA' = cA t := hun cA' (hK1.2 6 (cA', ty) rfl).2
    subst hc
    refine k H1 locs ls (cells + 1) (slots + x.toNatClampNeg) (by rw [List.length_append]; simp only [List.length_cons, List.length_nil]; omega) (by dsimp only; omega) ?_ hS1 hl
    rw [awd_push]
    show va_P D zCl (awd b0 ea cA h.1 ++ [(b0 + h.1.length, .inl (cA t, acA b0 (x.toNatClampNeg, azero t)))]) H1
    rw [hac]
    exact hP1
  have hun : ∀ (i : Nat) (ty : FieldType), (∀ C, ty ≠ .object C) → (atys cA)[i]? = some (cA i, ty) → ∀ cA' : ClassId, va_RA s cA' ty → cA' = cA i := by
    intro i ty hno hi cA' h1
    have h2 := (hKX.1.2 i (cA i, ty) hi).2
    cases ty with
    | object C => exact absurd rfl (hno C)
    | _ => exact Option.some.inj (h1.symm.trans h2)
  match t, hat with
  | 0, hat => cases hat; exact key .int rfl (by decide) (fun _ => rfl) rfl (hun 0 .int (fun C q => by cases q) rfl) rfl
  | 1, hat => cases hat; exact key .long rfl (by decide) (fun _ => rfl) rfl (hun 1 .long (fun C q => by cases q) rfl) rfl
  | 2, hat => cases hat; exact key .boolean rfl (by decide) (fun _ => rfl) rfl (hun 2 .boolean (fun C q => by cases q) rfl) rfl
  | 3, hat => cases hat; exact key .byte rfl (by decide) (fun _ => rfl) rfl (hun 3 .byte (fun C q => by cases q) rfl) rfl
  | n + 4, hat => cases hat
theorem s_newq {ix : Nat} {x : Int32} (hx0 : ¬ (x < 0 ∨ 100000 < x)) (hcl : Cond.classLink (zCN (aown Γ)) ix "AcresPaid$Season" ∈ zW) (hR : aRM Γ (h.1 ++ [.inl (4, x.toNatClampNeg, .inr (.inr (.inr (.inr (fun _ => none)))))], h.2 + x.toNatClampNeg)) (C : aCF Γ) (hd : aDC Γ pc (.anewarray ix) 3)
    (k : aSW Γ (pc + 3) L (.ref h.1.length :: r) (h.1 ++ [.inl (4, x.toNatClampNeg, .inr (.inr (.inr (.inr (fun _ => none)))))], h.2 + x.toNatClampNeg)) : aSW Γ pc L (.int x :: r) h := by
  obtain ⟨p, l, e, R, s, m, args, below, meth, c, Q, cc, nL, b0, n0, u0, own, kind, D, cA, ea, X⟩ := Γ
  intro H locs ls cells slots e1 e2 hP hS hl
  obtain ⟨hx, hb, hml, hown, hts, hKX, hsz, hki⟩ := C
  obtain ⟨hR1, hR2⟩ := hR
  rw [List.length_append] at hR1
  simp only [List.length_cons, List.length_nil] at hR1
  dsimp only at hR2
  have hn : ¬ x < 0 := fun q => hx0 (Or.inl q)
  have hN : x.toNatClampNeg ≤ 100000 := by
    have h2 : ¬ 100000 < x := fun q => hx0 (Or.inr q)
    have h3 : x.toInt ≤ 100000 := Int32.le_iff_toInt_le.mp (Int32.not_lt.mp h2)
    have h4 : x.toNatClampNeg = x.toInt.toNat := rfl
    omega
  refine va_newq (C := "AcresPaid$Season") hx hb hown (hts _ hcl) hKX.2.2.2.2.2.1 hKX.1 hP awd_D hS (fun q hq => by rw [hsz] at hq; exact Nat.le_trans (Nat.le_add_right _ _) hq) hn rfl (by omega) (by omega) (by omega) hd (fun q cA' H1 hK1 hP1 hD1 hS1 => aW_sz (fun hz => ?_))
  have hq : q = b0 + h.1.length := aq_eq hP1 hD1 (by omega)
  subst hq
  have hc : cA' = cA 4 := by
    obtain ⟨k1, c1, -, -, -, g1⟩ := (hK1.2 6 (cA', .object "AcresPaid$Season") rfl).2
    obtain ⟨k2, c2, -, -, -, g2⟩ := (hKX.1.2 4 (cA 4, .object "AcresPaid$Season") rfl).2
    exact Option.some.inj (g1.symm.trans g2)
  subst hc
  refine k H1 locs ls (cells + 1) (slots + x.toNatClampNeg) (by rw [List.length_append]; simp only [List.length_cons, List.length_nil]; omega) (by dsimp only; omega) ?_ hS1 hl
  rw [awd_push]
  exact hP1
theorem s_newA {ix : Nat} {x : Int32} (hx0 : ¬ (x < 0 ∨ 100000 < x)) (hcl : Cond.classLink (zCN (aown Γ)) ix "[I" ∈ zW) (hR : aRM Γ (h.1 ++ [.inl (5, x.toNatClampNeg, .inr (.inr (.inr (.inr (fun _ => none)))))], h.2 + x.toNatClampNeg)) (C : aCF Γ) (hd : aDC Γ pc (.anewarray ix) 3)
    (k : aSW Γ (pc + 3) L (.ref h.1.length :: r) (h.1 ++ [.inl (5, x.toNatClampNeg, .inr (.inr (.inr (.inr (fun _ => none)))))], h.2 + x.toNatClampNeg)) : aSW Γ pc L (.int x :: r) h := by
  obtain ⟨p, l, e, R, s, m, args, below, meth, c, Q, cc, nL, b0, n0, u0, own, kind, D, cA, ea, X⟩ := Γ
  intro H locs ls cells slots e1 e2 hP hS hl
  obtain ⟨hx, hb, hml, hown, hts, hKX, hsz, hki⟩ := C
  obtain ⟨hR1, hR2⟩ := hR
  rw [List.length_append] at hR1
  simp only [List.length_cons, List.length_nil] at hR1
  dsimp only at hR2
  have hn : ¬ x < 0 := fun q => hx0 (Or.inl q)
  have hN : x.toNatClampNeg ≤ 100000 := by
    have h2 : ¬ 100000 < x := fun q => hx0 (Or.inr q)
    have h3 : x.toInt ≤ 100000 := Int32.le_iff_toInt_le.mp (Int32.not_lt.mp h2)
    have h4 : x.toNatClampNeg = x.toInt.toNat := rfl
    omega
  refine W.anewA (t := .int) hx hb hown (hts _ hcl) hKX.2.2.2.2.2.2.1 rfl hd rfl hn (by omega) (by omega) (by omega) fun cA' kA comp f1 f2 f3 f4 => ?_
  have hc : cA' = cA 5 := Option.some.inj (f1.symm.trans (hKX.1.2 5 (cA 5, .array .int) rfl).2)
  subst hc
  generalize hH1 : H.push ({ cls := cA 5, slots := Array.replicate x.toNatClampNeg .null, vm := .none } : Cell) = H1
  have z1 : H1.size = H.size + 1 := by rw [← hH1, Array.size_push]
  have g1 : H1[H.size]? = some (arrV (cA 5) x.toNatClampNeg (fun _ => .null)) := by rw [← hH1, Array.getElem?_push_size, ← arrV_new]
  have o1 : ∀ q : Nat, q < H.size → H1[q]? = H[q]? := fun q hq => by rw [← hH1, Array.getElem?_push, if_neg (Nat.ne_of_lt hq)]
  have hk : ∀ (k : Nat) (y : Nat × va_E), (awd b0 ea cA h.1)[k]? = some y → H1[y.1]? = H[y.1]? := fun k y hy => o1 y.1 ((hP k y hy).lt)
  refine aW_sz (fun hz => ?_)
  have hP1 : va_P D zCl (awd b0 ea cA h.1 ++ [(H.size, .inl (cA 5, x.toNatClampNeg, .inr (.inr (.inr (.inr (fun _ => none))))))]) H1 := (hP.kept hk).app (fun k y hy => by
    have hz2 : k < 1 := (List.getElem?_eq_some_iff.mp hy).1
    rw [show k = 0 by omega] at hy
    cases hy
    show H1[H.size]? = some (vp_cell _ _)
    exact g1)
  have hD1 : va_D (fun q => b0 ≤ q) (awd b0 ea cA h.1 ++ [(H.size, .inl (cA 5, x.toNatClampNeg, .inr (.inr (.inr (.inr (fun _ => none))))))]) := awd_D.push hP rfl (by
    have := hS.1
    rw [hsz] at this
    exact Nat.le_trans (Nat.le_add_right _ _) this)
  have hq : H.size = b0 + h.1.length := aq_eq hP1 hD1 (by omega)
  rw [hq] at hP1
  have hS1 : va_S (fun q => b0 ≤ q) s.heap H1 locs := ⟨Nat.le_trans hS.1 (by omega), fun y h1 h2 => (o1 y (Nat.lt_of_lt_of_le h1 hS.1)).trans (hS.2.1 y h1 h2), hS.2.2⟩
  have kk := k H1 locs ls (cells + 1) (slots + x.toNatClampNeg) (by rw [List.length_append]; simp only [List.length_cons, List.length_nil]; omega) (by dsimp only; omega) (by rw [awd_push]; exact hP1) hS1 hl
  rw [hq]
  exact kk
end BZ
end
section
-- ===== one step; what it makes only grows =====
theorem tI_some {st : List Value} {f : Int32 → List Value → Option aR} {res : aR} (h : tI st f = some res) : ∃ x r, st = .int x :: r ∧ f x r = some res := by
  unfold tI at h
  split at h
  · exact ⟨_, _, rfl, h⟩
  · cases h
theorem tII_some {st : List Value} {f : Int32 → Int32 → List Value → Option aR} {res : aR} (h : tII st f = some res) : ∃ x y r, st = .int y :: .int x :: r ∧ f x y r = some res := by
  unfold tII at h
  split at h
  · exact ⟨_, _, _, rfl, h⟩
  · cases h
theorem tJ_some {st : List Value} {f : Int64 → List Value → Option aR} {res : aR} (h : tJ st f = some res) : ∃ x r, st = .long x :: r ∧ f x r = some res := by
  unfold tJ at h
  split at h
  · exact ⟨_, _, rfl, h⟩
  · cases h
theorem tJJ_some {st : List Value} {f : Int64 → Int64 → List Value → Option aR} {res : aR} (h : tJJ st f = some res) : ∃ x y r, st = .long y :: .long x :: r ∧ f x y r = some res := by
  unfold tJJ at h
  split at h
  · exact ⟨_, _, _, rfl, h⟩
  · cases h
theorem tJI_some {st : List Value} {f : Int64 → Int32 → List Value → Option aR} {res : aR} (h : tJI st f = some res) : ∃ x y r, st = .int y :: .long x :: r ∧ f x y r = some res := by
  unfold tJI at h
  split at h
  · exact ⟨_, _, _, rfl, h⟩
  · cases h
theorem aobj_some {h : aH} {o a : Nat} {f : List Value → Option aR} {res : aR} (e : aobj h o a f = some res) : ∃ fs, h.1[o]? = some (.inr (a, fs)) ∧ f fs = some res := by
  unfold aobj at e
  split at e
  · rename_i ci fs hg
    cases hb : Nat.beq ci a with
    | false => rw [hb] at e; cases e
    | true =>
      rw [hb] at e
      have := Nat.eq_of_beq_eq_true hb
      subst this
      exact ⟨fs, hg, e⟩
  · cases e
theorem aarI_some {h : aH} {o : Nat} {f : Nat → Nat → (Nat → Int32) → Option aR} {res : aR} (e : aarI h o f = some res) : ∃ t n g, h.1[o]? = some (.inl (t, n, .inl g)) ∧ f t n g = some res := by
  unfold aarI at e
  split at e
  · exact ⟨_, _, _, by assumption, e⟩
  · cases e
theorem aarJ_some {h : aH} {o : Nat} {f : Nat → (Nat → Int64) → Option aR} {res : aR} (e : aarJ h o f = some res) : ∃ n g, h.1[o]? = some (.inl (1, n, .inr (.inl g))) ∧ f n g = some res := by
  unfold aarJ at e
  split at e
  · exact ⟨_, _, by assumption, e⟩
  · cases e
theorem aarR_some {h : aH} {o : Nat} {f : Nat → Nat → (Nat → Option Nat) → Option aR} {res : aR} (e : aarR h o f = some res) : ∃ t n g, h.1[o]? = some (.inl (t, n, .inr (.inr (.inr (.inr g))))) ∧ f t n g = some res := by
  unfold aarR at e
  split at e
  · exact ⟨_, _, _, by assumption, e⟩
  · cases e
theorem abif {b : Bool} {x : Option aR} {res : aR} (h : (bif b then x else none) = some res) : b = true ∧ x = some res := by
  cases b with
  | false => cases h
  | true => exact ⟨rfl, h⟩
theorem anite {c : Prop} [Decidable c] {x : Option aR} {res : aR} (h : (if c then none else x) = some res) : ¬ c ∧ x = some res := by
  by_cases q : c
  · rw [if_pos q] at h; cases h
  · rw [if_neg q] at h; exact ⟨q, h⟩
theorem aite {c : Prop} [Decidable c] {x y : Option aR} {res : aR} (h : (if c then x else y) = some res) : (c ∧ x = some res) ∨ (¬ c ∧ y = some res) := by
  by_cases q : c
  · rw [if_pos q] at h; exact Or.inl ⟨q, h⟩
  · rw [if_neg q] at h; exact Or.inr ⟨q, h⟩
theorem asw_some {x : Int32} {k : Int → Option aR} {d : Int} {res : aR} : ∀ (l : List Int) (lo : Int), -2147483648 ≤ lo → lo + l.length ≤ 2147483648 → asw x k d lo l = some res →
    (∃ (i : Nat) (o : Int), l[i]? = some o ∧ x.toInt = lo + i ∧ k o = some res) ∨ ((x.toInt < lo ∨ lo + l.length ≤ x.toInt) ∧ k d = some res) := by
  intro l
  induction l with
  | nil =>
    intro lo h1 h2 h
    refine Or.inr ⟨?_, h⟩
    simp only [List.length_nil]
    omega
  | cons o r ih =>
    intro lo h1 h2 h
    simp only [List.length_cons] at h2
    unfold asw at h
    rcases aite h with ⟨q, h⟩ | ⟨q, h⟩
    · refine Or.inl ⟨0, o, rfl, ?_, h⟩
      rw [q, Int32.toInt_ofInt_of_le (by omega) (by omega)]
      simp
    · have hx : x.toInt ≠ lo := by
        intro e
        apply q
        apply Int32.toInt_inj.mp
        rw [Int32.toInt_ofInt_of_le (by omega) (by omega)]
        exact e
      rcases ih (lo + 1) (by omega) (by omega) h with ⟨i, o', g1, g2, g3⟩ | ⟨g1, g2⟩
      · exact Or.inl ⟨i + 1, o', by simpa using g1, by omega, g3⟩
      · refine Or.inr ⟨?_, g2⟩
        simp only [List.length_cons]
        omega
theorem alw_some {x : Int32} {k : Int → Option aR} {d : Int} {res : aR} : ∀ (l : List (Int × Int)), (∀ q ∈ l, -2147483648 ≤ q.1 ∧ q.1 < 2147483648) → alw x k d l = some res → k (Op.lookupswitch.offset l d x.toInt) = some res := by
  intro l
  induction l with
  | nil => intro _ h; exact h
  | cons q r ih =>
    intro hl h
    obtain ⟨a, o⟩ := q
    obtain ⟨l1, l2⟩ := hl (a, o) List.mem_cons_self
    dsimp only at l1 l2
    unfold alw at h
    rw [Op.lookupswitch.offset_cons]
    rcases aite h with ⟨q, h⟩ | ⟨q, h⟩
    · rw [if_pos (by rw [q, Int32.toInt_ofInt_of_le (by omega) (by omega)])]
      exact h
    · rw [if_neg]
      · exact ih (fun q hq => hl q (List.mem_cons_of_mem _ hq)) h
      · intro e
        apply q
        apply Int32.toInt_inj.mp
        rw [Int32.toInt_ofInt_of_le (by omega) (by omega)]
        exact e.symm
theorem asw_any {x : Int32} {k : Int → Option aR} {d : Int} {res : aR} : ∀ (l : List Int) (lo : Int), asw x k d lo l = some res → ∃ o, k o = some res := by
  intro l
  induction l with
  | nil => intro lo h; exact ⟨d, h⟩
  | cons o r ih =>
    intro lo h
    unfold asw at h
    rcases aite h with ⟨q, h⟩ | ⟨q, h⟩
    · exact ⟨o, h⟩
    · exact ih _ h
theorem alw_any {x : Int32} {k : Int → Option aR} {d : Int} {res : aR} : ∀ (l : List (Int × Int)), alw x k d l = some res → ∃ o, k o = some res := by
  intro l
  induction l with
  | nil => intro h; exact ⟨d, h⟩
  | cons o r ih =>
    intro h
    unfold alw at h
    rcases aite h with ⟨q, h⟩ | ⟨q, h⟩
    · exact ⟨o.2, h⟩
    · exact ih h
set_option maxHeartbeats 4000000 in
theorem aX1_goes {X : aX} {own kind : Nat} {k : Nat → aL → List Value → aH → Option aR} {i : aI} {L : aL} {st : List Value} {h : aH} {res : aR} (he : aX1 X own kind k i L st h = some res) :
    ∃ pc' L' st' h', k pc' L' st' h' = some res ∧ h.1.length ≤ h'.1.length ∧ h.2 ≤ h'.2 := by
  obtain ⟨pc, ins, len, a, b⟩ := i
  have nz : ∀ {P : Prop} {o : Option aR}, o = none → o = some res → P := fun h1 h2 => by rw [h1] at h2; cases h2
  cases ins with
  | tableswitch d lo hi offs =>
    obtain ⟨x, r, rfl, he⟩ := tI_some he
    obtain ⟨o, ho⟩ := asw_any _ _ he
    exact ⟨_, _, _, _, ho, Nat.le_refl _, Nat.le_refl _⟩
  | lookupswitch d ps =>
    obtain ⟨x, r, rfl, he⟩ := tI_some he
    obtain ⟨o, ho⟩ := alw_any _ he
    exact ⟨_, _, _, _, ho, Nat.le_refl _, Nat.le_refl _⟩
  | _ =>
    simp only [aX1, tI, tII, tJ, tJJ, tJI, aobj, aarI, aarJ, aarR, cond_eq_ite] at he
    repeat' split at he
    all_goals first
      | exact absurd he (by simp)
      | exact ⟨_, _, _, _, he, by simp, by simp⟩
end
section
-- ===== an instruction that is neither a call nor a return: our machine's step is a step =====
theorem z_any1 {l : List (Nat × Nat × Nat × Nat)} {o ix a : Nat} (h : l.any (fun q => Nat.beq q.1 o && Nat.beq q.2.1 ix && Nat.beq q.2.2.1 a) = true) : ∃ p, (o, ix, a, p) ∈ l := by
  obtain ⟨q, hq, hh⟩ := List.any_eq_true.mp h
  simp only [Bool.and_eq_true, Nat.beq_eq] at hh
  obtain ⟨⟨rfl, rfl⟩, rfl⟩ := hh
  exact ⟨q.2.2.2, hq⟩
theorem z_cst {o ix a : Nat} (h : zkcp.any (fun q => Nat.beq q.1 o && Nat.beq q.2.1 ix && Nat.beq q.2.2.1 a) = true) : Cond.constant (zCN o) ix (Int32.ofNat a) ∈ zW := by
  obtain ⟨p, hp⟩ := z_any1 h
  exact zTab_mem (List.all_eq_true.mp zkcp_ok _ hp)
theorem z_cstl {o ix a : Nat} (h : zlcp.any (fun q => Nat.beq q.1 o && Nat.beq q.2.1 ix && Nat.beq q.2.2.1 a) = true) : Cond.constantLong (zCN o) ix (Int64.ofNat a) ∈ zW := by
  obtain ⟨p, hp⟩ := z_any1 h
  exact zTab_mem (List.all_eq_true.mp zlcp_ok _ hp)
theorem z_cls {o ix a : Nat} (h : zccp.any (fun q => Nat.beq q.1 o && Nat.beq q.2.1 ix && Nat.beq q.2.2.1 a) = true) : a < 13 ∧ Cond.classLink (zCN o) ix (zCN a) ∈ zW := by
  obtain ⟨p, hp⟩ := z_any1 h
  have h1 := List.all_eq_true.mp zccp_ok _ hp
  simp only [Bool.and_eq_true, decide_eq_true_eq] at h1
  exact ⟨h1.1, zTab_mem h1.2⟩
def zIW (c : Nat) : Bool := lw_tbl.any (fun w => match w with
  | .instantiable C n => decide (C = zCN c) && decide (n = zN c)
  | _ => false) && lw_tbl.any (fun w => match w with
  | .initialized C => decide (C = zCN c)
  | _ => false)
theorem zIW_ok : (List.range 13).all zIW = true := by decide +kernel
theorem z_ini {c : Nat} (hc : c < 13) : Cond.instantiable (zCN c) (zN c) ∈ zW ∧ Cond.initialized (zCN c) ∈ zW := by
  have h := List.all_eq_true.mp zIW_ok c (List.mem_range.mpr hc)
  unfold zIW at h
  obtain ⟨h1, h2⟩ := (Bool.and_eq_true _ _).mp h
  obtain ⟨w1, m1, g1⟩ := List.any_eq_true.mp h1
  obtain ⟨w2, m2, g2⟩ := List.any_eq_true.mp h2
  refine ⟨?_, ?_⟩
  · split at g1
    · simp only [Bool.and_eq_true, decide_eq_true_eq] at g1
      obtain ⟨rfl, rfl⟩ := g1
      exact zW_of m1 rfl
    · cases g1
  · split at g2
    · simp only [decide_eq_true_eq] at g2
      subst g2
      exact zW_of m2 rfl
    · cases g2
def zAW : Bool := ([ArrayType.int, ArrayType.long, ArrayType.boolean, ArrayType.byte] : List ArrayType).all (fun t => lw_tbl.any (fun w => match w with
  | .arrayClass ty => decide (ty = newarray.typeOf t)
  | _ => false))
theorem zAW_ok : zAW = true := by decide +kernel
theorem z_arr {a : Nat} {t : ArrayType} (h : zTy a = some t) : Cond.arrayClass (newarray.typeOf t) ∈ zW := by
  have hm : t ∈ ([ArrayType.int, ArrayType.long, ArrayType.boolean, ArrayType.byte] : List ArrayType) := by
    unfold zTy at h
    split at h <;> first | (cases h; simp) | cases h
  have h1 := List.all_eq_true.mp zAW_ok t hm
  obtain ⟨w, m, g⟩ := List.any_eq_true.mp h1
  split at g
  · simp only [decide_eq_true_eq] at g
    subst g
    exact zW_of m rfl
  · cases g
def zQW : Bool := lw_tbl.any (fun w => decide (w = Cond.classLink "AcresPaid$Accounts" 9 "AcresPaid$Season")) && lw_tbl.any (fun w => decide (w = Cond.classLink "AcresPaid$Colours" 19 "[I"))
theorem zQW_ok : zQW = true := by decide +kernel
theorem z_q4 : Cond.classLink (zCN 0) 9 "AcresPaid$Season" ∈ zW := by
  have h := ((Bool.and_eq_true _ _).mp zQW_ok).1
  obtain ⟨w, m, g⟩ := List.any_eq_true.mp h
  simp only [decide_eq_true_eq] at g
  subst g
  exact zW_of m rfl
theorem z_q5 : Cond.classLink (zCN 3) 19 "[I" ∈ zW := by
  have h := ((Bool.and_eq_true _ _).mp zQW_ok).2
  obtain ⟨w, m, g⟩ := List.any_eq_true.mp h
  simp only [decide_eq_true_eq] at g
  subst g
  exact zW_of m rfl
theorem alw_nn (pc : Nat) (x d : Int) : ∀ (l : List (Int × Int)), 0 ≤ (pc : Int) + d → (∀ q ∈ l, 0 ≤ (pc : Int) + q.2) → 0 ≤ (pc : Int) + Op.lookupswitch.offset l d x := by
  intro l
  induction l with
  | nil => intro h _; exact h
  | cons q r ih =>
    intro h hl
    obtain ⟨a, o⟩ := q
    rw [Op.lookupswitch.offset_cons]
    split
    · exact hl (a, o) List.mem_cons_self
    · exact ih h (fun q hq => hl q (List.mem_cons_of_mem _ hq))
set_option maxHeartbeats 4000000 in
theorem a_step {Γ : aGm} {k : Nat → aL → List Value → aH → Option aR} {i : aI} {L : aL} {st : List Value} {h : aH} {res : aR} (C : aCF Γ) (hd : aDC Γ i.1 i.2.1 (zlen i.2.1 i.2.2.1)) (hc : zchkI (aown Γ) i = true)
    (hk : ∀ pc' L' st' h', k pc' L' st' h' = some res → aSW Γ pc' L' st' h') (hR : ∀ pc' L' st' h', k pc' L' st' h' = some res → aRM Γ h') (he : aX1 (aXX Γ) (aown Γ) (akind Γ) k i L st h = some res) : aSW Γ i.1 L st h := by
  obtain ⟨pc, ins, len, a, b⟩ := i
  cases ins with
  | aconst_null =>
    exact s_null C hd (hk _ _ _ _ he)
  | iconst z =>
    exact s_iconst C hd (hk _ _ _ _ he)
  | bipush z =>
    exact s_bipush C hd (hk _ _ _ _ he)
  | sipush z =>
    exact s_sipush C hd (hk _ _ _ _ he)
  | lconst z =>
    exact s_lconst C hd (hk _ _ _ _ he)
  | ldc ix =>
    simp only [aX1] at he
    have hc' : (bif Nat.beq a 4294967296 then Nat.beq (aown Γ) 10 && Nat.beq ix 114 else zkcp.any (fun q => Nat.beq q.1 (aown Γ) && Nat.beq q.2.1 ix && Nat.beq q.2.2.1 a)) = true := hc
    cases hb : Nat.beq a 4294967296 with
    | true =>
      rw [hb] at he hc'
      simp only [cond_true, Bool.and_eq_true] at he hc'
      have e2 := Nat.eq_of_beq_eq_true hc'.2
      subst e2
      exact s_ldcS (Nat.eq_of_beq_eq_true hc'.1) C hd (hk _ _ _ _ he)
    | false =>
      rw [hb] at he hc'
      simp only [cond_false] at he hc'
      exact s_ldc (z_cst hc') C hd (hk _ _ _ _ he)
  | ldc_w ix =>
    exact s_ldcw (z_cst hc) C hd (hk _ _ _ _ he)
  | ldc2_w ix =>
    exact s_ldc2 (z_cstl hc) C hd (hk _ _ _ _ he)
  | iload_n z =>
    simp only [aX1] at he
    split at he
    · rename_i x hg
      exact s_iloadn hg C hd (hk _ _ _ _ he)
    · cases he
  | iload z =>
    simp only [aX1] at he
    split at he
    · rename_i x hg
      exact s_iload hg C hd (hk _ _ _ _ he)
    · cases he
  | lload_n z =>
    simp only [aX1] at he
    split at he
    · rename_i x hg
      exact s_lloadn hg C hd (hk _ _ _ _ he)
    · cases he
  | lload z =>
    simp only [aX1] at he
    split at he
    · rename_i x hg
      exact s_lload hg C hd (hk _ _ _ _ he)
    · cases he
  | aload_n z =>
    simp only [aX1] at he
    split at he
    · rename_i x hg
      exact s_aloadn_ref hg C hd (hk _ _ _ _ he)
    · rename_i x hg
      exact s_aloadn_ext hg C hd (hk _ _ _ _ he)
    · rename_i hg
      exact s_aloadn_nul hg C hd (hk _ _ _ _ he)
    · cases he
  | aload z =>
    simp only [aX1] at he
    split at he
    · rename_i x hg
      exact s_aload_ref hg C hd (hk _ _ _ _ he)
    · rename_i x hg
      exact s_aload_ext hg C hd (hk _ _ _ _ he)
    · rename_i hg
      exact s_aload_nul hg C hd (hk _ _ _ _ he)
    · cases he
  | istore_n z =>
    obtain ⟨x, r, rfl, he⟩ := tI_some he
    obtain ⟨hz, he⟩ := abif he
    exact s_istoren (Nat.le_of_ble_eq_true hz) C hd (hk _ _ _ _ he)
  | istore z =>
    obtain ⟨x, r, rfl, he⟩ := tI_some he
    obtain ⟨hz, he⟩ := abif he
    exact s_istore (Nat.le_of_ble_eq_true hz) C hd (hk _ _ _ _ he)
  | lstore_n z =>
    obtain ⟨x, r, rfl, he⟩ := tJ_some he
    obtain ⟨hz, he⟩ := abif he
    exact s_lstoren (Nat.le_of_ble_eq_true hz) C hd (hk _ _ _ _ he)
  | lstore z =>
    obtain ⟨x, r, rfl, he⟩ := tJ_some he
    obtain ⟨hz, he⟩ := abif he
    exact s_lstore (Nat.le_of_ble_eq_true hz) C hd (hk _ _ _ _ he)
  | astore_n z =>
    simp only [aX1] at he
    split at he
    · obtain ⟨hz, he⟩ := abif he
      exact s_astoren (Nat.le_of_ble_eq_true hz) C hd (hk _ _ _ _ he)
    · obtain ⟨hz, he⟩ := abif he
      exact s_astoreNn (Nat.le_of_ble_eq_true hz) C hd (hk _ _ _ _ he)
    · cases he
  | astore z =>
    simp only [aX1] at he
    split at he
    · obtain ⟨hz, he⟩ := abif he
      exact s_astore (Nat.le_of_ble_eq_true hz) C hd (hk _ _ _ _ he)
    · obtain ⟨hz, he⟩ := abif he
      exact s_astoreN (Nat.le_of_ble_eq_true hz) C hd (hk _ _ _ _ he)
    · cases he
  | iinc z c =>
    simp only [aX1] at he
    split at he
    · rename_i x hg
      exact s_iinc hg C hd (hk _ _ _ _ he)
    · cases he
  | iadd =>
    obtain ⟨x, y, r, rfl, he⟩ := tII_some he
    exact s_iadd C hd (hk _ _ _ _ he)
  | isub =>
    obtain ⟨x, y, r, rfl, he⟩ := tII_some he
    exact s_isub C hd (hk _ _ _ _ he)
  | imul =>
    obtain ⟨x, y, r, rfl, he⟩ := tII_some he
    exact s_imul C hd (hk _ _ _ _ he)
  | iand =>
    obtain ⟨x, y, r, rfl, he⟩ := tII_some he
    exact s_iand C hd (hk _ _ _ _ he)
  | ior =>
    obtain ⟨x, y, r, rfl, he⟩ := tII_some he
    exact s_ior C hd (hk _ _ _ _ he)
  | ixor =>
    obtain ⟨x, y, r, rfl, he⟩ := tII_some he
    exact s_ixor C hd (hk _ _ _ _ he)
  | ishl =>
    obtain ⟨x, y, r, rfl, he⟩ := tII_some he
    exact s_ishl C hd (hk _ _ _ _ he)
  | ishr =>
    obtain ⟨x, y, r, rfl, he⟩ := tII_some he
    exact s_ishr C hd (hk _ _ _ _ he)
  | iushr =>
    obtain ⟨x, y, r, rfl, he⟩ := tII_some he
    exact s_iushr C hd (hk _ _ _ _ he)
  | idiv =>
    obtain ⟨x, y, r, rfl, he⟩ := tII_some he
    obtain ⟨hn, he⟩ := anite he
    exact s_idiv hn C hd (hk _ _ _ _ he)
  | irem =>
    obtain ⟨x, y, r, rfl, he⟩ := tII_some he
    obtain ⟨hn, he⟩ := anite he
    exact s_irem hn C hd (hk _ _ _ _ he)
  | ladd =>
    obtain ⟨x, y, r, rfl, he⟩ := tJJ_some he
    exact s_ladd C hd (hk _ _ _ _ he)
  | lsub =>
    obtain ⟨x, y, r, rfl, he⟩ := tJJ_some he
    exact s_lsub C hd (hk _ _ _ _ he)
  | lmul =>
    obtain ⟨x, y, r, rfl, he⟩ := tJJ_some he
    exact s_lmul C hd (hk _ _ _ _ he)
  | land =>
    obtain ⟨x, y, r, rfl, he⟩ := tJJ_some he
    exact s_land C hd (hk _ _ _ _ he)
  | lor =>
    obtain ⟨x, y, r, rfl, he⟩ := tJJ_some he
    exact s_lor C hd (hk _ _ _ _ he)
  | lcmp =>
    obtain ⟨x, y, r, rfl, he⟩ := tJJ_some he
    exact s_lcmp C hd (hk _ _ _ _ he)
  | ldiv =>
    obtain ⟨x, y, r, rfl, he⟩ := tJJ_some he
    obtain ⟨hn, he⟩ := anite he
    exact s_ldiv hn C hd (hk _ _ _ _ he)
  | lrem =>
    obtain ⟨x, y, r, rfl, he⟩ := tJJ_some he
    obtain ⟨hn, he⟩ := anite he
    exact s_lrem hn C hd (hk _ _ _ _ he)
  | lshl =>
    obtain ⟨x, y, r, rfl, he⟩ := tJI_some he
    exact s_lshl C hd (hk _ _ _ _ he)
  | ineg =>
    obtain ⟨x, r, rfl, he⟩ := tI_some he
    exact s_ineg C hd (hk _ _ _ _ he)
  | i2l =>
    obtain ⟨x, r, rfl, he⟩ := tI_some he
    exact s_i2l C hd (hk _ _ _ _ he)
  | i2b =>
    obtain ⟨x, r, rfl, he⟩ := tI_some he
    exact s_i2b C hd (hk _ _ _ _ he)
  | i2c =>
    obtain ⟨x, r, rfl, he⟩ := tI_some he
    exact s_i2c C hd (hk _ _ _ _ he)
  | i2s =>
    obtain ⟨x, r, rfl, he⟩ := tI_some he
    exact s_i2s C hd (hk _ _ _ _ he)
  | l2i =>
    obtain ⟨x, r, rfl, he⟩ := tJ_some he
    exact s_l2i C hd (hk _ _ _ _ he)
  | dup =>
    simp only [aX1] at he
    split at he
    · obtain ⟨h1, he⟩ := abif he
      exact s_dup h1 C hd (hk _ _ _ _ he)
    · cases he
  | pop =>
    simp only [aX1] at he
    split at he
    · obtain ⟨h1, he⟩ := abif he
      exact s_pop h1 C hd (hk _ _ _ _ he)
    · cases he
  | pop2 =>
    simp only [aX1] at he
    split at he
    · exact s_pop2 C hd (hk _ _ _ _ he)
    · cases he
  | dup2 =>
    simp only [aX1] at he
    split at he
    · obtain ⟨h1, he⟩ := abif he
      obtain ⟨h1, h2⟩ := (Bool.and_eq_true _ _).mp h1
      exact s_dup2 h1 h2 C hd (hk _ _ _ _ he)
    · cases he
  | dup_x1 =>
    simp only [aX1] at he
    split at he
    · obtain ⟨h1, he⟩ := abif he
      obtain ⟨h1, h2⟩ := (Bool.and_eq_true _ _).mp h1
      exact s_dup_x1 h1 h2 C hd (hk _ _ _ _ he)
    · cases he
  | goto off =>
    exact s_goto (of_decide_eq_true hc) C hd (hk _ _ _ _ he)
  | ifCond c off =>
    obtain ⟨x, r, rfl, he⟩ := tI_some he
    cases c with
    | eq =>
      rcases aite he with ⟨q, he⟩ | ⟨q, he⟩
      · exact s_if_eq (of_decide_eq_true hc) C hd (fun _ => hk _ _ _ _ he) (fun z => absurd q z)
      · exact s_if_eq (of_decide_eq_true hc) C hd (fun z => absurd z q) (fun _ => hk _ _ _ _ he)
    | ne =>
      rcases aite he with ⟨q, he⟩ | ⟨q, he⟩
      · exact s_if_ne (of_decide_eq_true hc) C hd (fun z => absurd q z) (fun _ => hk _ _ _ _ he)
      · exact s_if_ne (of_decide_eq_true hc) C hd (fun _ => hk _ _ _ _ he) (fun z => absurd z q)
    | lt =>
      rcases aite he with ⟨q, he⟩ | ⟨q, he⟩
      · exact s_if_lt (of_decide_eq_true hc) C hd (fun _ => hk _ _ _ _ he) (fun z => absurd q z)
      · exact s_if_lt (of_decide_eq_true hc) C hd (fun z => absurd z q) (fun _ => hk _ _ _ _ he)
    | ge =>
      rcases aite he with ⟨q, he⟩ | ⟨q, he⟩
      · exact s_if_ge (of_decide_eq_true hc) C hd (fun _ => hk _ _ _ _ he) (fun z => absurd q z)
      · exact s_if_ge (of_decide_eq_true hc) C hd (fun z => absurd z q) (fun _ => hk _ _ _ _ he)
    | gt =>
      rcases aite he with ⟨q, he⟩ | ⟨q, he⟩
      · exact s_if_gt (of_decide_eq_true hc) C hd (fun _ => hk _ _ _ _ he) (fun z => absurd q z)
      · exact s_if_gt (of_decide_eq_true hc) C hd (fun z => absurd z q) (fun _ => hk _ _ _ _ he)
    | le =>
      rcases aite he with ⟨q, he⟩ | ⟨q, he⟩
      · exact s_if_le (of_decide_eq_true hc) C hd (fun _ => hk _ _ _ _ he) (fun z => absurd q z)
      · exact s_if_le (of_decide_eq_true hc) C hd (fun z => absurd z q) (fun _ => hk _ _ _ _ he)
  | if_icmp c off =>
    obtain ⟨x, y, r, rfl, he⟩ := tII_some he
    cases c with
    | eq =>
      rcases aite he with ⟨q, he⟩ | ⟨q, he⟩
      · exact s_icmp_eq (of_decide_eq_true hc) C hd (fun _ => hk _ _ _ _ he) (fun z => absurd q z)
      · exact s_icmp_eq (of_decide_eq_true hc) C hd (fun z => absurd z q) (fun _ => hk _ _ _ _ he)
    | ne =>
      rcases aite he with ⟨q, he⟩ | ⟨q, he⟩
      · exact s_icmp_ne (of_decide_eq_true hc) C hd (fun z => absurd q z) (fun _ => hk _ _ _ _ he)
      · exact s_icmp_ne (of_decide_eq_true hc) C hd (fun _ => hk _ _ _ _ he) (fun z => absurd z q)
    | lt =>
      rcases aite he with ⟨q, he⟩ | ⟨q, he⟩
      · exact s_icmp_lt (of_decide_eq_true hc) C hd (fun _ => hk _ _ _ _ he) (fun z => absurd q z)
      · exact s_icmp_lt (of_decide_eq_true hc) C hd (fun z => absurd z q) (fun _ => hk _ _ _ _ he)
    | ge =>
      rcases aite he with ⟨q, he⟩ | ⟨q, he⟩
      · exact s_icmp_ge (of_decide_eq_true hc) C hd (fun _ => hk _ _ _ _ he) (fun z => absurd q z)
      · exact s_icmp_ge (of_decide_eq_true hc) C hd (fun z => absurd z q) (fun _ => hk _ _ _ _ he)
    | gt =>
      rcases aite he with ⟨q, he⟩ | ⟨q, he⟩
      · exact s_icmp_gt (of_decide_eq_true hc) C hd (fun _ => hk _ _ _ _ he) (fun z => absurd q z)
      · exact s_icmp_gt (of_decide_eq_true hc) C hd (fun z => absurd z q) (fun _ => hk _ _ _ _ he)
    | le =>
      rcases aite he with ⟨q, he⟩ | ⟨q, he⟩
      · exact s_icmp_le (of_decide_eq_true hc) C hd (fun _ => hk _ _ _ _ he) (fun z => absurd q z)
      · exact s_icmp_le (of_decide_eq_true hc) C hd (fun z => absurd z q) (fun _ => hk _ _ _ _ he)
  | ifnull off =>
    simp only [aX1] at he
    split at he
    · exact s_ifnull C hd (hk _ _ _ _ he)
    · exact s_ifnullN (of_decide_eq_true hc) C hd (hk _ _ _ _ he)
    · cases he
  | ifnonnull off =>
    simp only [aX1] at he
    split at he
    · exact s_ifnonnull (of_decide_eq_true hc) C hd (hk _ _ _ _ he)
    · exact s_ifnonnullN C hd (hk _ _ _ _ he)
    · cases he
  | tableswitch d lo hi offs =>
    obtain ⟨x, r, rfl, he⟩ := tI_some he
    simp only [zchkI, Bool.and_eq_true, decide_eq_true_eq, List.all_eq_true] at hc
    obtain ⟨⟨⟨⟨c1, c2⟩, c3⟩, c4⟩, c5⟩ := hc
    rcases asw_some _ _ c1 (by omega) he with ⟨i, o, g1, g2, g3⟩ | ⟨g1, g2⟩
    · have ho := c5 o (List.mem_of_getElem? g1)
      have hil : i < offs.toList.length := (List.getElem?_eq_some_iff.mp g1).1
      exact s_tableIn (by omega) (by omega) (by rw [show (x.toInt - lo).toNat = i by omega, ← Array.getElem?_toList]; exact g1) (show (pc : Int) + o = (((pc : Int) + o).toNat : Int) by omega) C hd (hk _ _ _ _ g3)
    · exact s_tableOut (by omega) (show (pc : Int) + d = (((pc : Int) + d).toNat : Int) by omega) C hd (hk _ _ _ _ g2)
  | lookupswitch d ps =>
    obtain ⟨x, r, rfl, he⟩ := tI_some he
    simp only [zchkI, Bool.and_eq_true, decide_eq_true_eq] at hc
    obtain ⟨⟨c1, c2⟩, c3⟩ := hc
    have c2 := List.all_eq_true.mp c2
    simp only [Bool.and_eq_true, decide_eq_true_eq] at c2
    have g := alw_some _ (fun q hq => ⟨(c2 q hq).1.2, (c2 q hq).2⟩) he
    have hnn : 0 ≤ (pc : Int) + Op.lookupswitch.offset ps.toList d x.toInt := alw_nn pc _ d _ c1 (fun q hq => (c2 q hq).1.1)
    exact s_lookup c3 rfl (show (pc : Int) + Op.lookupswitch.offset ps.toList d x.toInt = (((pc : Int) + Op.lookupswitch.offset ps.toList d x.toInt).toNat : Int) by omega) C hd (hk _ _ _ _ g)
  | getfield ix =>
    simp only [aX1] at he
    split at he
    · obtain ⟨fs, ho, he⟩ := aobj_some he
      split at he
      · rename_i v hv
        exact s_get ho (z_fld hc) hv C hd (hk _ _ _ _ he)
      · cases he
    · cases he
  | putfield ix =>
    simp only [aX1] at he
    split at he
    · obtain ⟨fs, ho, he⟩ := aobj_some he
      obtain ⟨hq, he⟩ := abif he
      obtain ⟨hq, hlt⟩ := (Bool.and_eq_true _ _).mp hq
      obtain ⟨hq, hok⟩ := (Bool.and_eq_true _ _).mp hq
      have hlt := Nat.le_of_ble_eq_true hlt
      cases hfin : (zT a b).2.2.2 with
      | false => exact s_put ho (z_fld hc) hfin hok hlt C hd (hk _ _ _ _ he)
      | true =>
        rw [hfin] at hq
        obtain ⟨q1, q2⟩ := (Bool.and_eq_true _ _).mp (show (Nat.beq (akind Γ) 2 && Nat.beq (aown Γ) a) = true from hq)
        exact s_putF ho (z_fld hc) hfin (Nat.eq_of_beq_eq_true q1) (Nat.eq_of_beq_eq_true q2) hok hlt C hd (hk _ _ _ _ he)
    · cases he
  | getstatic ix =>
    obtain ⟨c1, c2⟩ := (Bool.and_eq_true _ _).mp hc
    have c2 := Nat.eq_of_beq_eq_true c2
    subst c2
    exact s_gets (Nat.eq_of_beq_eq_true c1) C hd (hk _ _ _ _ he)
  | arraylength =>
    simp only [aX1] at he
    split at he
    · split at he
      · rename_i n f ho
        exact s_alen ho C hd (hk _ _ _ _ he)
      · rename_i n f ho
        exact s_alen1 ho C hd (hk _ _ _ _ he)
      · cases he
    · split at he
      · rename_i n f hX
        exact s_xlen hX C hd (hk _ _ _ _ he)
      · cases he
    · cases he
  | iaload =>
    simp only [aX1] at he
    split at he
    · obtain ⟨t, n, g, ho, he⟩ := aarI_some he
      obtain ⟨ht, he⟩ := abif he
      have ht := Nat.eq_of_beq_eq_true ht
      subst ht
      obtain ⟨hj, he⟩ := anite he
      exact s_iald ho hj C hd (hk _ _ _ _ he)
    · split at he
      · rename_i n f hX
        obtain ⟨hj, he⟩ := anite he
        exact s_xld hX hj C hd (hk _ _ _ _ he)
      · cases he
    · cases he
  | baload =>
    simp only [aX1] at he
    split at he
    · obtain ⟨t, n, g, ho, he⟩ := aarI_some he
      obtain ⟨ht, he1⟩ := abif he
      obtain ⟨hj, he2⟩ := anite he1
      clear he he1
      rcases (Bool.or_eq_true _ _).mp ht with ht | ht
      · have ht := Nat.eq_of_beq_eq_true ht
        subst ht
        exact s_zald ho hj C hd (hk _ _ _ _ he2)
      · have ht := Nat.eq_of_beq_eq_true ht
        subst ht
        exact s_bald ho hj C hd (hk _ _ _ _ he2)
    · cases he
  | laload =>
    simp only [aX1] at he
    split at he
    · obtain ⟨n, g, ho, he⟩ := aarJ_some he
      obtain ⟨hj, he⟩ := anite he
      exact s_lald ho hj C hd (hk _ _ _ _ he)
    · cases he
  | aaload =>
    simp only [aX1] at he
    split at he
    · obtain ⟨t, n, g, ho, he⟩ := aarR_some he
      obtain ⟨ht, he1⟩ := abif he
      obtain ⟨hj, he2⟩ := anite he1
      clear he he1
      rcases (Bool.or_eq_true _ _).mp ht with ht | ht
      · have ht := Nat.eq_of_beq_eq_true ht
        subst ht
        exact s_aald4 ho hj C hd (hk _ _ _ _ he2)
      · have ht := Nat.eq_of_beq_eq_true ht
        subst ht
        exact s_aald5 ho hj C hd (hk _ _ _ _ he2)
    · cases he
  | iastore =>
    simp only [aX1] at he
    split at he
    · obtain ⟨t, n, g, ho, he⟩ := aarI_some he
      obtain ⟨ht, he⟩ := abif he
      have ht := Nat.eq_of_beq_eq_true ht
      subst ht
      obtain ⟨hj, he⟩ := anite he
      exact s_iast ho hj C hd (hk _ _ _ _ he)
    · cases he
  | bastore =>
    simp only [aX1] at he
    split at he
    · obtain ⟨t, n, g, ho, he⟩ := aarI_some he
      split at he
      · obtain ⟨hj, he⟩ := anite he
        exact s_zast ho hj C hd (hk _ _ _ _ he)
      · obtain ⟨hj, he⟩ := anite he
        exact s_bast ho hj C hd (hk _ _ _ _ he)
      · cases he
    · cases he
  | lastore =>
    simp only [aX1] at he
    split at he
    · obtain ⟨n, g, ho, he⟩ := aarJ_some he
      obtain ⟨hj, he⟩ := anite he
      exact s_last ho hj C hd (hk _ _ _ _ he)
    · cases he
  | aastore =>
    simp only [aX1] at he
    split at he
    · obtain ⟨t, n, g, ho, he⟩ := aarR_some he
      cases h4 : Nat.beq t 4 with
      | true =>
        rw [h4] at he
        simp only [cond_true] at he
        have ht := Nat.eq_of_beq_eq_true h4
        subst ht
        obtain ⟨fs, hq, he⟩ := aobj_some he
        obtain ⟨hj, he⟩ := anite he
        exact s_aast ho hq hj C hd (hk _ _ _ _ he)
      | false =>
        rw [h4] at he
        simp only [cond_false] at he
        obtain ⟨ht, he⟩ := abif he
        have ht := Nat.eq_of_beq_eq_true ht
        subst ht
        obtain ⟨t', n', g', hq, he⟩ := aarI_some he
        obtain ⟨ht', he⟩ := abif he
        have ht' := Nat.eq_of_beq_eq_true ht'
        subst ht'
        obtain ⟨hj, he⟩ := anite he
        exact s_aast5 ho hq hj C hd (hk _ _ _ _ he)
    · cases he
  | new ix =>
    obtain ⟨ha, hcl⟩ := z_cls hc
    exact s_new ha hcl (z_ini ha).1 (z_ini ha).2 (hR _ _ _ _ he) C hd (hk _ _ _ _ he)
  | newarray t =>
    obtain ⟨x, r, rfl, he⟩ := tI_some he
    obtain ⟨hx0, he⟩ := anite he
    have ht := of_decide_eq_true hc
    exact s_newa ht hx0 (z_arr ht) (hR _ _ _ _ he) C hd (hk _ _ _ _ he)
  | anewarray ix =>
    obtain ⟨x, r, rfl, he⟩ := tI_some he
    obtain ⟨hx0, he⟩ := anite he
    rcases (Bool.or_eq_true _ _).mp hc with hc | hc
    · obtain ⟨hc, c3⟩ := (Bool.and_eq_true _ _).mp hc
      obtain ⟨c1, c2⟩ := (Bool.and_eq_true _ _).mp hc
      have c1 := Nat.eq_of_beq_eq_true c1
      have c2 := Nat.eq_of_beq_eq_true c2
      have c3 := Nat.eq_of_beq_eq_true c3
      dsimp only at c1
      subst c1
      subst c3
      exact s_newq hx0 (by rw [c2]; exact z_q4) (hR _ _ _ _ he) C hd (hk _ _ _ _ he)
    · obtain ⟨hc, c3⟩ := (Bool.and_eq_true _ _).mp hc
      obtain ⟨c1, c2⟩ := (Bool.and_eq_true _ _).mp hc
      have c1 := Nat.eq_of_beq_eq_true c1
      have c2 := Nat.eq_of_beq_eq_true c2
      have c3 := Nat.eq_of_beq_eq_true c3
      dsimp only at c1
      subst c1
      subst c3
      exact s_newA hx0 (by rw [c2]; exact z_q5) (hR _ _ _ _ he) C hd (hk _ _ _ _ he)
  | _ => exact absurd he (by simp [aX1])
end
section
-- ===== what our machine does, the machine does: whole methods =====
def aQ (D : va_G) (cA : Nat → ClassId) (ea : Nat → Nat) (b0 : Nat) (v : Option Value) (h' : aH) : Array Value → State → Outcome → State → Prop := fun _ st oc t =>
  oc = .returned (v.map (acv b0 ea)) ∧ va_P D zCl (awd b0 ea cA h'.1) t.heap ∧ st.heap.size ≤ t.heap.size ∧ ∀ q : Nat, q < st.heap.size → ¬ b0 ≤ q → t.heap[q]? = st.heap[q]?
def aPc (D : va_G) (cA : Nat → ClassId) (ea : Nat → Nat) (b0 : Nat) (X : aX) (as : List Value) (h : aH) : Array Value → State → Prop :=
  va_Pc (as.map (acv b0 ea)) (fun U => U.heap.size = b0 + h.1.length ∧ va_P D zCl (awd b0 ea cA h.1) U.heap ∧ aKX D cA ea b0 X U)
def aWs (M : aM) : List Cond := Cond.code M.2.1 M.2.2.1 M.2.2.2.1 M.2.2.2.2.1 :: zW
def aRoom (d k n : Nat) : Room := { frames := d, cells := k, slots := n, locals := 41 * d }
def aMet (l : Launch) (D : va_G) (cA : Nat → ClassId) (ea : Nat → Nat) (b0 : Nat) (X : aX) (d : Nat) (Y : aM) (as : List Value) (h : aH) (v : Option Value) (h' : aH) : Prop :=
  Met l Y.2.1 (aWs Y) (aRoom d (h'.1.length - h.1.length) (h'.2 - h.2)) (aPc D cA ea b0 X as h) (aQ D cA ea b0 v h') (h'.1.length - h.1.length) (h'.2 - h.2) (fun q => b0 ≤ q)
theorem aPc_blind {D : va_G} {cA : Nat → ClassId} {ea : Nat → Nat} {b0 : Nat} {X : aX} {as : List Value} {h : aH} : FrameBlind (aPc D cA ea b0 X as h) := fun a U g mk q =>
  ⟨q.1, q.2.1, q.2.2.1, aKX_go (U := U.calling g mk a) q.2.2.2 (State.WarmedH.refl U) (fun _ _ _ => rfl)⟩
theorem aH_sz {D : va_G} {cA : Nat → ClassId} {ea : Nat → Nat} {b0 n0 cells : Nat} {σ : List aC} {H : Heap} (hP : va_P D zCl (awd b0 ea cA σ) H) (h1 : b0 + n0 ≤ H.size) (h2 : H.size ≤ b0 + n0 + cells) (e1 : n0 + cells = σ.length) : H.size = b0 + σ.length := by
  by_cases hz : σ.length = 0
  · omega
  · have hlt : σ.length - 1 < σ.length := by omega
    have h3 := (hP (σ.length - 1) _ (awd_get (List.getElem?_eq_getElem hlt))).lt
    dsimp only at h3
    omega
theorem aws_map {b0 : Nat} {ea : Nat → Nat} : ∀ (r : List Value), ((r.map (acv b0 ea)).map fun v => v.category).sum = aws r
  | [] => rfl
  | v :: r => by
    simp only [List.map_cons, List.sum_cons, aws, acv_cat]
    rw [aws_map r]
theorem aW_back {p : Program} {l : Launch} {e : Env} {R : Room} {s : State} {m : MethodId} {args : Array Value} {below : List Frame} {meth : Method} {c : Code} {H : Heap} {locs : List Loc} {cells slots mc ms : Nat} {Q : State → Prop} {pc : Nat} {ls : Array Slot} {st0 r : List Value} {v : Option Value} {h1 : aH} {D : va_G} {cA : Nat → ClassId} {ea : Nat → Nat} {b0 n0 u0 nL : Nat} {L : aL} {a : Array Value}
    (hr : va_Run p l e R s m args below meth c H locs cells slots mc ms (F0 m pc ls st0) (r.map (acv b0 ea)) (aQ D cA ea b0 v h1 a) (fun q => b0 ≤ q)) (hS : va_S (fun q => b0 ≤ q) s.heap H locs) (hl : alR b0 ea ls nL L) (e1 : n0 + (cells + mc) = h1.1.length) (e2 : u0 + (slots + ms) = h1.2)
    (kk : ∀ (H : Heap) (locs : List Loc) (ls : Array Slot) (cells slots : Nat), n0 + cells = h1.1.length → u0 + slots = h1.2 → va_P D zCl (awd b0 ea cA h1.1) H → va_S (fun q => b0 ≤ q) s.heap H locs → alR b0 ea ls nL L → W p l e R s m args below meth c H locs cells slots Q (F0 m (pc + 3) ls ((v.toList ++ r).map (acv b0 ea)))) :
    W p l e R s m args below meth c H locs cells slots Q (F0 m pc ls st0) := by
  intro T hT X
  obtain ⟨v', st₀, t, T', L', h0, X', hL, g1, g2, ⟨hv, hP1, hz, hk⟩, st⟩ := hr T hT X
  have hv : v' = v.map (acv b0 ea) := by cases hv; rfl
  subst hv
  rw [h0] at hz hk
  rw [← g1] at hP1 hz hk
  obtain ⟨t2, a1, b1⟩ := kk T'.heap (locs ++ L') ls (cells + mc) (slots + ms) e1 e2 hP1
    ⟨Nat.le_trans hS.1 hz, fun q h1 h2 => (hk q (Nat.lt_of_lt_of_le h1 hS.1) h2).trans (hS.2.1 q h1 h2), fun q hq => by
      rcases List.mem_append.mp hq with h | h
      · exact hS.2.2 q h
      · exact hL q h⟩ hl T' rfl X'
  refine ⟨t2, st t2 ?_, b1⟩
  have e : (v.toList ++ r).map (acv b0 ea) = (v.map (acv b0 ea)).toList ++ r.map (acv b0 ea) := by cases v <;> simp
  rw [e] at a1
  exact a1
theorem gW {ws : List Cond} (h : ∀ w ∈ ws, w ∈ zW) : GoodIn zW ws := fun w hw => ⟨h w hw, good_of_word (zW_good w (h w hw))⟩
theorem gWs {M : aM} (h : zMok M) : ∀ w ∈ aWs M, w ∈ zW := by
  intro w hw
  rcases List.mem_cons.mp hw with rfl | hw
  · exact h.2.1
  · exact hw
theorem z_link {X : aX} {D : va_G} {cA : Nat → ClassId} {ea : Nat → Nat} {b0 o ix a : Nat} {s : State} {y : MethodName} (h : zmcp.any (fun q => Nat.beq q.1 o && Nat.beq q.2.1 ix && Nat.beq q.2.2.1 a) = true) (ha : a ≤ 1000) (hY : zyn a = y) (hK : aKX D cA ea b0 X s) :
    Cond.methodLink (zCN o) ix y ∈ zW ∨ va_Nw (.methodLinkNest (zCN o) ix y "AcresPaid") s := by
  obtain ⟨q, hq, hh⟩ := List.any_eq_true.mp h
  simp only [Bool.and_eq_true, Nat.beq_eq] at hh
  obtain ⟨⟨rfl, rfl⟩, rfl⟩ := hh
  subst hY
  have h1 := List.all_eq_true.mp zmcp_ok q hq
  rcases (Bool.or_eq_true _ _).mp h1 with h2 | h2
  · exfalso
    simp only [Bool.or_eq_true, Nat.beq_eq] at h2
    omega
  · by_cases hn : q.2.2.2.1 = 0
    · rw [if_pos hn] at h2
      exact Or.inl (zTab_mem h2)
    · exact Or.inr (hK.2.2.2.1 q hq hn ha)
theorem zmt_lt {a : Nat} {Y : aM} (h : zmt[a]? = some Y) : a ≤ 1000 := by
  have h1 := (List.getElem?_eq_some_iff.mp h).1
  have h2 : zmt.length ≤ 1000 := by decide +kernel
  omega
theorem zyn_of {a : Nat} {Y : aM} (h : zmt[a]? = some Y) : zyn a = Y.2.1 := by
  unfold zyn
  rw [h]
theorem zMok_d {Y : aM} (h : zMok Y) : plainName Y.2.1.cls = true ∧ Y.2.1.cls ≠ "java/lang/invoke/MethodHandle" ∧ Y.2.1.cls ≠ "java/lang/invoke/VarHandle" ∧ (parseMethodDescriptor Y.2.1.desc).map (fun d => d.parameters.length) = some Y.2.2.2.2.2.1 ∧ zCN Y.1 = Y.2.1.cls ∧ Y.2.2.2.1 ≤ 22 ∧ (Y.2.2.2.2.2.2.1 = 2 → Y.2.1.name = "<init>" ∧ Y.2.2.2.2.1 = none) := by
  have h1 := h.2.2.2.2.2
  simp only [Bool.and_eq_true, decide_eq_true_eq] at h1
  obtain ⟨⟨⟨⟨⟨⟨a, b⟩, c⟩, d⟩, e⟩, f⟩, g⟩ := h1
  exact ⟨a, b, c, d, e, f, g⟩
theorem acut_some {n : Nat} {st : List Value} {f : List Value → List Value → Option aR} {res : aR} (h : acut n st f = some res) : ∃ as r, st = as.reverse ++ r ∧ as.length = n ∧ f as r = some res := by
  obtain ⟨h1, h2⟩ := abif h
  have h1 := Nat.le_of_ble_eq_true h1
  refine ⟨_, _, ?_, ?_, h2⟩
  · rw [List.reverse_reverse, List.take_append_drop]
  · rw [List.length_reverse, List.length_take]
    omega
theorem aback_some {d : Nat} {r : List Value} {callee : Nat → Option aR} {k : List Value → aH → Option aR} {res : aR} (h : aback d r callee k = some res) : ∃ d' v h1, d = d' + 1 ∧ aws r ≤ 8 ∧ callee d' = some (v, h1) ∧ k (v.toList ++ r) h1 = some res := by
  unfold aback at h
  split at h
  · cases h
  · obtain ⟨h1, h2⟩ := abif h
    split at h2
    · rename_i q hq
      exact ⟨_, q.1, q.2, rfl, Nat.le_of_ble_eq_true h1, hq, h2⟩
    · cases h2
theorem aent_some {Y : aM} {as : List Value} {f : Unit → Option aR} {res : aR} (h : aent Y as f = some res) : aws as ≤ Y.2.2.2.1 ∧ f () = some res := by
  obtain ⟨h1, h2⟩ := abif h
  exact ⟨Nat.le_of_ble_eq_true h1, h2⟩
def aRm (Γ : aGm) (d : Nat) (h : aH) : Prop := match Γ with
  | (p, l, e, R, s, m, args, below, meth, c, Q, cc, nL, b0, n0, u0, own, kind, D, cA, ea, X) => (h.1.length ≤ n0 + R.cells ∧ h.2 ≤ u0 + R.slots) ∧ d ≤ R.frames ∧ 41 * d ≤ R.locals
def aMG (Γ : aGm) (d : Nat) (Y : aM) (as : List Value) (h : aH) (v : Option Value) (h' : aH) : Prop := match Γ with
  | (p, l, e, R, s, m, args, below, meth, c, Q, cc, nL, b0, n0, u0, own, kind, D, cA, ea, X) => aMet l D cA ea b0 X d Y as h v h'
theorem s_stat {Γ : aGm} {pc ix a d' : Nat} {L : aL} {as r : List Value} {h h1 h' : aH} {v : Option Value} {Y : aM} (hY : zmt[a]? = some Y) (hok : zMok Y) (hk1 : Y.2.2.2.2.2.2.1 = 1) (hc : zmcp.any (fun q => Nat.beq q.1 (aown Γ) && Nat.beq q.2.1 ix && Nat.beq q.2.2.1 a) = true) (hn : as.length = Y.2.2.2.2.2.1) (hr8 : aws r ≤ 8)
    (hM : aMG Γ d' Y as h v h1) (g1 : h.1.length ≤ h1.1.length ∧ h.2 ≤ h1.2) (g2 : h1.1.length ≤ h'.1.length ∧ h1.2 ≤ h'.2) (hR : aRm Γ (d' + 1) h') (C : aCF Γ) (hd : aDC Γ pc (.invokestatic ix) 3) (k : aSW Γ (pc + 3) L (v.toList ++ r) h1) : aSW Γ pc L (as.reverse ++ r) h := by
  obtain ⟨p, l, e, R, s, m, args, below, meth, c, Q, cc, nL, b0, n0, u0, own, kind, D, cA, ea, X⟩ := Γ
  intro H locs ls cells slots e1 e2 hP hS hl
  obtain ⟨hx, hb, hml, hown, hts, hKX, hsz, hki⟩ := C
  obtain ⟨⟨hR1, hR2⟩, hR3, hR4⟩ := hR
  obtain ⟨-, d1, d2, d3, d4, d5, -⟩ := zMok_d hok
  have hst : Cond.static Y.2.1 ∈ zW := by have := hok.2.2.2.1; rw [if_pos hk1] at this; exact this
  refine aW_sz (fun hz => ?_)
  have hsH : H.size = b0 + h.1.length := aH_sz (n0 := n0) hP (by have := hS.1; rw [hsz] at this; exact this) (by rw [hsz] at hz; exact hz) e1
  have hpre : PreS s H (aPc D cA ea b0 X as h) (as.map (acv b0 ea)) := ⟨aPc_blind, fun U hU hW => ⟨rfl, by rw [hU]; exact hsH, by rw [hU]; exact hP, aKX_go hKX hW (fun q q1 q2 => by rw [hU]; exact hS.2.1 q q1 q2)⟩⟩
  have hst2 : (as.reverse ++ r).map (acv b0 ea) = (as.map (acv b0 ea)).reverse ++ r.map (acv b0 ea) := by simp
  have hrun : va_Run p l e R s m args below meth c H locs cells slots (h1.1.length - h.1.length) (h1.2 - h.2) (F0 m pc ls ((as.reverse ++ r).map (acv b0 ea))) (r.map (acv b0 ea)) (aQ D cA ea b0 v h1 (as.map (acv b0 ea)).toArray) (fun q => b0 ≤ q) := by
    rcases z_link hc (zmt_lt hY) (zyn_of hY) hKX with hlk | hlk
    · exact va_runS ⟨hx, hb, hml, hown, hts⟩ hM (va_cwS Y.2.2.2.2.2.1 hts (gW (fun w hw => by
        simp only [va_wsS, List.cons_append, List.nil_append, List.mem_cons] at hw
        rcases hw with rfl | rfl | rfl | hw
        · exact hlk
        · exact hst
        · exact hok.2.2.1
        · exact gWs hok w hw)) rfl rfl rfl ⟨d1, d2, d3⟩ ⟨hR3, by show 8 + (Y.2.2.2.1 + 11) + 41 * d' ≤ R.locals; omega⟩) hpre rfl (by rw [List.length_map]; exact hn) hl.2.1 hst2 (lv_room (by rw [aws_map]; exact hr8)) hd ⟨by omega, by omega⟩
    · exact va_runSN ⟨hx, hb, hml, hown, hts⟩ hM ⟨va_cnB Y.2.2.2.2.2.1 hts (gW (gWs hok)) rfl rfl rfl hlk (hts _ hok.2.2.1) ⟨d1, d2, d3⟩ ⟨hR3, by show 8 + (Y.2.2.2.1 + 11) + 41 * d' ≤ R.locals; omega⟩, hts _ hst, trivial⟩ hpre rfl (by rw [List.length_map]; exact hn) hl.2.1 hst2 (lv_room (by rw [aws_map]; exact hr8)) hd ⟨by omega, by omega⟩
  exact aW_back hrun hS hl (by omega) (by omega) k
theorem s_virt {Γ : aGm} {pc ix a d' o : Nat} {L : aL} {as r : List Value} {h h1 h' : aH} {v : Option Value} {Y : aM} {fs : List Value} (hY : zmt[a]? = some Y) (hok : zMok Y) (hk1 : Y.2.2.2.2.2.2.1 = 0) (hc : zmcp.any (fun q => Nat.beq q.1 (aown Γ) && Nat.beq q.2.1 ix && Nat.beq q.2.2.1 a && Nat.beq q.2.2.2.1 0) = true) (hn : as.length = Y.2.2.2.2.2.1) (hr8 : aws r ≤ 8)
    (ho : h.1[o]? = some (.inr (Y.1, fs))) (ho13 : Y.1 < 13) (hM : aMG Γ d' Y (.ref o :: as) h v h1) (g1 : h.1.length ≤ h1.1.length ∧ h.2 ≤ h1.2) (g2 : h1.1.length ≤ h'.1.length ∧ h1.2 ≤ h'.2) (hR : aRm Γ (d' + 1) h') (C : aCF Γ) (hd : aDC Γ pc (.invokevirtual ix) 3) (k : aSW Γ (pc + 3) L (v.toList ++ r) h1) : aSW Γ pc L (as.reverse ++ .ref o :: r) h := by
  obtain ⟨p, l, e, R, s, m, args, below, meth, c, Q, cc, nL, b0, n0, u0, own, kind, D, cA, ea, X⟩ := Γ
  intro H locs ls cells slots e1 e2 hP hS hl
  obtain ⟨hx, hb, hml, hown, hts, hKX, hsz, hki⟩ := C
  obtain ⟨⟨hR1, hR2⟩, hR3, hR4⟩ := hR
  obtain ⟨-, d1, d2, d3, d4, d5, -⟩ := zMok_d hok
  have hst : Cond.instanceMethod Y.2.1 ∈ zW := by have := hok.2.2.2.1; rw [if_neg (by omega)] at this; exact this
  have hse : Cond.selects Y.2.1.cls Y.2.1 Y.2.1 ∈ zW := hok.2.2.2.2.1 hk1
  refine aW_sz (fun hz => ?_)
  have hsH : H.size = b0 + h.1.length := aH_sz (n0 := n0) hP (by have := hS.1; rw [hsz] at this; exact this) (by rw [hsz] at hz; exact hz) e1
  have hlk : Cond.methodLink (zCN own) ix Y.2.1 ∈ zW := by
    obtain ⟨q, hq, hh⟩ := List.any_eq_true.mp hc
    simp only [Bool.and_eq_true, Nat.beq_eq] at hh
    obtain ⟨⟨⟨q1, q2⟩, q3⟩, q4⟩ := hh
    have h1 := List.all_eq_true.mp zmcp_ok q hq
    unfold zmcpW at h1
    rw [if_pos q4] at h1
    rcases (Bool.or_eq_true _ _).mp h1 with h2 | h2
    · exfalso
      simp only [Bool.or_eq_true, Nat.beq_eq] at h2
      have := zmt_lt hY
      omega
    · have h3 := zTab_mem h2
      rw [q1, q2, q3, zyn_of hY] at h3
      exact h3
  have hpre : PreV s H Y.2.1.cls (b0 + o) (aPc D cA ea b0 X (.ref o :: as) h) (as.map (acv b0 ea)) :=
    ⟨aPc_blind, by rw [← d4]; exact va_recv (q := (zCN Y.1, zT Y.1, zN Y.1)) hKX.1 hP (zCl_get ho13) (show (awd b0 ea cA h.1)[o]? = some (b0 + o, .inr (Y.1, fs.map (acv b0 ea))) from awd_get ho), fun U hU hW => ⟨rfl, by rw [hU]; exact hsH, by rw [hU]; exact hP, aKX_go hKX hW (fun q q1 q2 => by rw [hU]; exact hS.2.1 q q1 q2)⟩⟩
  have hst2 : (as.reverse ++ .ref o :: r).map (acv b0 ea) = (as.map (acv b0 ea)).reverse ++ .ref (b0 + o) :: r.map (acv b0 ea) := by simp [acv]
  have hrun : va_Run p l e R s m args below meth c H locs cells slots (h1.1.length - h.1.length) (h1.2 - h.2) (F0 m pc ls ((as.reverse ++ .ref o :: r).map (acv b0 ea))) (r.map (acv b0 ea)) (aQ D cA ea b0 v h1 (Value.ref (b0 + o) :: as.map (acv b0 ea)).toArray) (fun q => b0 ≤ q) :=
    va_runV ⟨hx, hb, hml, hown, hts⟩ hM (cwV Y.2.2.2.2.2.1 hts (gW (fun w hw => by
        simp only [wsV, List.cons_append, List.nil_append, List.mem_cons] at hw
        rcases hw with rfl | rfl | rfl | rfl | hw
        · exact hlk
        · exact hst
        · exact hse
        · exact hok.2.2.1
        · exact gWs hok w hw)) rfl rfl rfl ⟨rfl, d1, d2, d3⟩ ⟨hR3, by show 8 + (Y.2.2.2.1 + 11) + 41 * d' ≤ R.locals; omega⟩) hpre rfl (by rw [List.length_map]; exact hn) hl.2.1 hst2 (lv_room (by rw [aws_map]; exact hr8)) hd ⟨by omega, by omega⟩
  exact aW_back hrun hS hl (by omega) (by omega) k
theorem s_init {Γ : aGm} {pc ix a d' o : Nat} {L : aL} {as r : List Value} {h h1 h' : aH} {Y : aM} {v : Option Value} (hY : zmt[a]? = some Y) (hok : zMok Y) (hk1 : Y.2.2.2.2.2.2.1 = 2) (hc : zmcp.any (fun q => Nat.beq q.1 (aown Γ) && Nat.beq q.2.1 ix && Nat.beq q.2.2.1 a) = true) (hn : as.length = Y.2.2.2.2.2.1) (hr8 : aws r ≤ 8)
    (hM : aMG Γ d' Y (.ref o :: as) h v h1) (g1 : h.1.length ≤ h1.1.length ∧ h.2 ≤ h1.2) (g2 : h1.1.length ≤ h'.1.length ∧ h1.2 ≤ h'.2) (hR : aRm Γ (d' + 1) h') (C : aCF Γ) (hd : aDC Γ pc (.invokespecial ix) 3) (k : aSW Γ (pc + 3) L (v.toList ++ r) h1) : aSW Γ pc L (as.reverse ++ .ref o :: r) h := by
  obtain ⟨p, l, e, R, s, m, args, below, meth, c, Q, cc, nL, b0, n0, u0, own, kind, D, cA, ea, X⟩ := Γ
  intro H locs ls cells slots e1 e2 hP hS hl
  obtain ⟨hx, hb, hml, hown, hts, hKX, hsz, hki⟩ := C
  obtain ⟨⟨hR1, hR2⟩, hR3, hR4⟩ := hR
  obtain ⟨-, d1, d2, d3, d4, d5, d6⟩ := zMok_d hok
  obtain ⟨d6, d7⟩ := d6 hk1
  have hst : Cond.instanceMethod Y.2.1 ∈ zW := by have := hok.2.2.2.1; rw [if_neg (by omega)] at this; exact this
  refine aW_sz (fun hz => ?_)
  have hsH : H.size = b0 + h.1.length := aH_sz (n0 := n0) hP (by have := hS.1; rw [hsz] at this; exact this) (by rw [hsz] at hz; exact hz) e1
  have hpre : PreS s H (aPc D cA ea b0 X (.ref o :: as) h) (.ref (b0 + o) :: as.map (acv b0 ea)) :=
    ⟨aPc_blind, fun U hU hW => ⟨rfl, by rw [hU]; exact hsH, by rw [hU]; exact hP, aKX_go hKX hW (fun q q1 q2 => by rw [hU]; exact hS.2.1 q q1 q2)⟩⟩
  have hst2 : (as.reverse ++ .ref o :: r).map (acv b0 ea) = (as.map (acv b0 ea)).reverse ++ .ref (b0 + o) :: r.map (acv b0 ea) := by simp [acv]
  have hWs : aWs Y = Cond.code Y.2.1 Y.2.2.1 Y.2.2.2.1 none :: zW := by unfold aWs; rw [d7]
  have hrun : va_Run p l e R s m args below meth c H locs cells slots (h1.1.length - h.1.length) (h1.2 - h.2) (F0 m pc ls ((as.reverse ++ .ref o :: r).map (acv b0 ea))) (r.map (acv b0 ea)) (aQ D cA ea b0 v h1 (Value.ref (b0 + o) :: as.map (acv b0 ea)).toArray) (fun q => b0 ≤ q) := by
    rcases z_link hc (zmt_lt hY) (zyn_of hY) hKX with hlk | hlk
    · exact va_runI ⟨hx, hb, hml, hown, hts⟩ hM (cwI Y.2.2.2.2.2.1 hts (gW (gWs hok)) hWs rfl rfl (hts _ hok.2.2.1) (hts _ hlk) (hts _ hst) d6 ⟨d1, d2, d3⟩ ⟨hR3, by show 8 + (Y.2.2.2.1 + 11) + 41 * d' ≤ R.locals; omega⟩) hpre rfl (by rw [List.length_map]; exact hn) hl.2.1 hst2 (lv_room (by rw [aws_map]; exact hr8)) hd ⟨by omega, by omega⟩
    · exact va_runIN ⟨hx, hb, hml, hown, hts⟩ hM ⟨va_cnB Y.2.2.2.2.2.1 hts (gW (gWs hok)) hWs rfl rfl hlk (hts _ hok.2.2.1) ⟨d1, d2, d3⟩ ⟨hR3, by show 8 + (Y.2.2.2.1 + 11) + 41 * d' ≤ R.locals; omega⟩, d6, hts _ hst⟩ hpre rfl (by rw [List.length_map]; exact hn) hl.2.1 hst2 (lv_room (by rw [aws_map]; exact hr8)) hd ⟨by omega, by omega⟩
  exact aW_back hrun hS hl (by omega) (by omega) k
end
section
-- ===== String.indexOf(int) on the one constant: the library's free theorem, on our facts =====
section STR
def aSt (a d : Nat) (z : Int32) (arr : Cell) (U : State) : Prop :=
  (Cond.exactly (.arg 0) "java/lang/String").before #[.ref a] U = true ∧ (Term.field (.arg 0) "java/lang/String" "coder" "B").eval #[.ref a] U none [] U = some (.int 0) ∧
  (Term.field (.arg 0) "java/lang/String" "value" "[B").eval #[.ref a] U none [] U = some (.ref d) ∧ U.heap[d]? = some arr ∧ U.isArrayOf arr .byte ∧ arr.vm ≠ .unknown ∧ arr.slots.size < 2 ^ 31 ∧
  (∀ i, i < arr.slots.size → arr.slots[i]? = some (.int (Jvm.Lib.StringLatin1.equals.intAt arr i))) ∧ Jvm.Lib.Cold.StaticIs U "java/lang/String" "COMPACT_STRINGS" "Z" (.int z) ∧ z ≠ 0
theorem ix_shelf {a d : Nat} {z ch fromI : Int32} {arr : Cell} {s : State} {aa : Array Value} (hK : aSt a d z arr s) (hcw : (Jvm.Free.Str.Ix2.calleeW.foldr Cond.and .tt).before aa s = true) :
    Jvm.Free.StrIndexOf.S2.P a d ch fromI z arr #[.ref a, .int ch, .int fromI] s := by
  have V := Jvm.Free.Str.Sub.words_of _ hcw
  have w1 : ∀ (c : Cond), c ∈ Jvm.Free.Str.Ix2.calleeW → c.tabsOnly = true → ∀ a', c.before a' s = true := fun c hc ht a' => Jvm.Free.Str.Sub.anyArgs c ht (V c hc)
  obtain ⟨k1, k2, k3, k4, k5, k6, k7, k8, k9, k10⟩ := hK
  have hpreI : Jvm.Lib.Cold.isLatin1.spec.pre.before #[.ref a] s = true := by
    simp only [Jvm.Lib.Cold.isLatin1.spec, Cond.before_and, Bool.and_eq_true]
    exact ⟨w1 _ (by simp [Jvm.Free.Str.Ix2.calleeW]) rfl _, rfl, w1 _ (by simp [Jvm.Free.Str.Ix2.calleeW]) rfl _, w1 _ (by simp [Jvm.Free.Str.Ix2.calleeW]) rfl _⟩
  have hpreCo : Jvm.Lib.Cold.coder.spec.pre.before #[.ref a] s = true := by
    simp only [Jvm.Lib.Cold.coder.spec, Cond.before_and, Bool.and_eq_true]
    exact ⟨w1 _ (by simp [Jvm.Free.Str.Ix2.calleeW]) rfl _, rfl, w1 _ (by simp [Jvm.Free.Str.Ix2.calleeW]) rfl _, w1 _ (by simp [Jvm.Free.Str.Ix2.calleeW]) rfl _⟩
  have hpreL : Jvm.Lib.Cold.length.spec.pre.before #[.ref a] s = true := by
    simp only [Jvm.Lib.Cold.length.spec, Cond.before_and, Bool.and_eq_true]
    exact ⟨w1 _ (by simp [Jvm.Free.Str.Ix2.calleeW]) rfl _, rfl, k1, w1 _ (by simp [Jvm.Free.Str.Ix2.calleeW]) rfl _, w1 _ (by simp [Jvm.Free.Str.Ix2.calleeW]) rfl _, w1 _ (by simp [Jvm.Free.Str.Ix2.calleeW]) rfl _, w1 _ (by simp [Jvm.Free.Str.Ix2.calleeW]) rfl _, w1 _ (by simp [Jvm.Free.Str.Ix2.calleeW]) rfl _, w1 _ (by simp [Jvm.Free.Str.Ix2.calleeW]) rfl _⟩
  have k3' : (Term.field (.arg 0) "java/lang/String" "value" "[B").eval #[.ref a, .int ch, .int fromI] s none [] s = some (.ref d) := by
    simpa [Term.eval] using k3
  exact ⟨rfl, k3', hpreI, ⟨rfl, k9, k10, k2⟩, hpreL, ⟨rfl, k3, k4, k5, hpreCo, ⟨rfl, k9, k10, k2⟩⟩, k6, k7, k8⟩
theorem ix_gets (l : Launch) (a d : Nat) (z ch : Int32) (arr : Cell) :
    MetFree l Jvm.Free.StrIndexOf.indexOf1N Jvm.Free.Str.Ix1.spec (fun args s => args = #[.ref a, .int ch] ∧ aSt a d z arr s) (fun _ _ _ _ _ => True) (PureRet (some (.int (Jvm.Free.SL1IndexOf.Idx.answer arr ch 0 arr.slots.size.toInt32)))) := by
  intro p e ha hcas hclk s m args below hf happ hP _
  obtain ⟨rfl, hK⟩ := hP
  obtain ⟨q1, q2, q3, q4, q5, q6, q7, hpre⟩ := (Spec.appliesLoose_iff (S := Jvm.Free.Str.Ix1.spec) hf).mp happ
  simp only [Jvm.Free.Str.Ix1.spec, Cond.before_and, Bool.and_eq_true] at hpre
  have happ' : Jvm.Free.StrIndexOf.S1.spec.appliesLoose Jvm.Free.StrIndexOf.indexOf1N e.platform s = true := (Spec.appliesLoose_iff (S := Jvm.Free.StrIndexOf.S1.spec) hf).mpr ⟨q1, q2, q3, q4, q5, q6, q7, hpre.1⟩
  have hD : (Jvm.Free.Str.dropHeap Jvm.Free.Str.Ix2.spec.pre).before #[.ref a, .int ch, .int 0] s = true := Jvm.Free.Str.Sub.anyArgs _ Jvm.Free.Str.Ix1.drop_tabsOnly hpre.2
  have h2 : Jvm.Free.Str.Ix2.spec.pre.before #[.ref a, .int ch, .int 0] s = true := by
    refine Jvm.Free.Str.before_of_drop _ hD ?_
    simp only [Jvm.Free.Str.Ix2.spec, Jvm.Free.StrIndexOf.S2.spec, Jvm.Free.SL1IndexOf.Idx.tab, Jvm.Free.SL1IndexOf.Can.tab, Jvm.Free.SL1IndexOf.Chr.tab, Jvm.Free.Str.Ix2.calleeW, List.foldr, Jvm.Free.Str.Leaves, and_true, true_and]
    exact ⟨rfl, Jvm.Free.Str.Sub.ex3 hK.1⟩
  simp only [Jvm.Free.Str.Ix2.spec, Cond.before_and, Bool.and_eq_true] at h2
  obtain ⟨n, o, g1, g2, hend, hpe, ho⟩ := Jvm.Free.StrIndexOf.S1.met l a d ch z arr p e ha hcas hclk s m _ below hf happ' ⟨rfl, h2.1, ix_shelf hK h2.2⟩ trivial
  exact ⟨n, o, g1, g2, hend, Jvm.Free.Str.Ix2.pureRet_of hpe ho⟩
theorem ix_pays {l : Launch} {R : Room} {p : Program} {e : Env} {below : List Frame} {s : State} {sargs : Array Value} {len w : Nat} (a d : Nat) (z ch : Int32) (arr : Cell)
    (htab : (Jvm.Free.Str.dropHeap Jvm.Free.Str.Ix1.spec.pre).before sargs s = true) (hf : 4 + 1 ≤ R.frames) (hl : w + (2 + 11) + 160 ≤ R.locals) :
    Back l R p e below s sargs Jvm.Free.StrIndexOf.indexOf1N len w (fun A a' => A.cells ≤ R.cells ∧ A.slots ≤ R.slots ∧ a' = #[.ref a, .int ch] ∧ aSt a d z arr A.U)
      (fun A _ v B => v = some (.int (Jvm.Free.SL1IndexOf.Idx.answer arr ch 0 arr.slots.size.toInt32)) ∧ B.U.heap = A.U.heap ∧ B.locs = A.locs ∧ B.cells = A.cells ∧ B.slots = A.slots) := by
  refine Back.of_free (S := Jvm.Free.Str.Ix1.spec) (P := fun args s => args = #[.ref a, .int ch] ∧ aSt a d z arr s) (K := fun _ _ _ _ _ => True) (Q := PureRet (some (.int (Jvm.Free.SL1IndexOf.Idx.answer arr ch 0 arr.slots.size.toInt32)))) (bytes := Jvm.Free.StrIndexOf.indexOf1B) (maxL := 2) (ret := some .int)
    (E := fun _ first o t L k n => L = [] ∧ k = 0 ∧ n = 0 ∧ o = .returned (some (.int (Jvm.Free.SL1IndexOf.Idx.answer arr ch 0 arr.slots.size.toInt32))) ∧ t.heap = first.heap)
    (ix_gets l a d z ch arr) hf hl ?_ ?_ ?_ ?_ ?_
  · intro m' meth' c' A a' X ⟨h1, h2, hP⟩
    obtain rfl := hP.1
    have hD : (Jvm.Free.Str.dropHeap Jvm.Free.Str.Ix1.spec.pre).before #[.ref a, .int ch] A.U = true := Jvm.Free.Str.rides_of_B _ Jvm.Free.Str.Ix1.tab_rides X.warmed htab
    have hpre : Jvm.Free.Str.Ix1.spec.pre.before #[.ref a, .int ch] A.U = true := by
      refine Jvm.Free.Str.before_of_drop _ hD ?_
      simp only [Jvm.Free.Str.Ix1.spec, Jvm.Free.StrIndexOf.S1.spec, Jvm.Free.Str.Ix2.spec, Jvm.Free.StrIndexOf.S2.spec, Jvm.Free.SL1IndexOf.Idx.tab, Jvm.Free.SL1IndexOf.Can.tab, Jvm.Free.SL1IndexOf.Chr.tab, Jvm.Free.Str.Ix2.calleeW, List.foldr, Jvm.Free.Str.dropHeap, Jvm.Free.Str.Leaves, and_true, true_and]
      exact ⟨rfl, Jvm.Free.Str.Ix1.ex2 hP.2.1⟩
    have hpre' := hpre
    simp only [Jvm.Free.Str.Ix1.spec, Jvm.Free.StrIndexOf.S1.spec, Cond.before_and, Bool.and_eq_true] at hpre'
    exact ⟨hpre, hpre'.1.1, hpre'.1.2.2.2.2.2.2.2, h1, h2⟩
  · intro m' meth' c' A a' g' mk X ⟨_, _, hP⟩
    exact hP
  · intro _ _ _ _ _ _ _ _ _; trivial
  · intro a' first o t ⟨ho, hh, hF⟩
    exact ⟨[], 0, 0, hF, rfl, rfl, rfl, ho, hh⟩
  · intro m' meth' c' A a' g' mk v t L k n X _ _ hF ⟨hL, hk, hn, ho, hh⟩
    subst hL hk hn
    exact ⟨Outcome.returned.inj ho, hh, by simp [Pt.locs], rfl, rfl⟩
theorem fidx_congr {f g : Nat → Int32} {t : Int32} : ∀ (n lo : Nat), (∀ k, lo ≤ k → k < lo + n → f k = g k) → Jvm.Free.SL1IndexOf.Chr.firstIdx f t lo n = Jvm.Free.SL1IndexOf.Chr.firstIdx g t lo n
  | 0, _, _ => rfl
  | n + 1, lo, h => by
    show (if f lo = t then Int32.ofNat lo else Jvm.Free.SL1IndexOf.Chr.firstIdx f t (lo + 1) n) = (if g lo = t then Int32.ofNat lo else Jvm.Free.SL1IndexOf.Chr.firstIdx g t (lo + 1) n)
    rw [h lo (Nat.le_refl _) (by omega), fidx_congr n (lo + 1) (fun k h1 h2 => h k (by omega) (by omega))]
theorem zIx_lat : ∀ k : Fin 256, Jvm.Free.SL1IndexOf.Chr.firstIdx (fun j => zNS.getD j 0) (Int32.ofNat k.val).toInt8.toInt32 0 13 = zIx (Int32.ofNat k.val) := by decide +kernel
theorem zIx_out {c : Int32} (h : ¬ (0 ≤ c ∧ c ≤ 255)) : zIx c = -1 := by
  have key : ∀ x ∈ zNS, x ≠ c := by
    intro x hx e
    subst e
    have hl : ∀ y ∈ zNS, 0 ≤ y ∧ y ≤ 255 := by decide
    exact h (hl _ hx)
  have go : ∀ (l : List Int32) (n : Nat), (∀ x ∈ l, x ≠ c) → zIxF c n l = -1 := by
    intro l
    induction l with
    | nil => intro n _; rfl
    | cons x r ih =>
      intro n hx
      unfold zIxF
      rw [if_neg (hx x List.mem_cons_self)]
      exact ih _ fun y hy => hx y (List.mem_cons_of_mem _ hy)
  exact go zNS 0 key
theorem ix_ans {arr : Cell} {c : Int32} (h13 : arr.slots.size = 13) (hel : ∀ j, j < 13 → Jvm.Lib.StringLatin1.equals.intAt arr j = zNS.getD j 0) : Jvm.Free.SL1IndexOf.Idx.answer arr c 0 arr.slots.size.toInt32 = zIx c := by
  have hh : Jvm.Free.SL1IndexOf.Idx.hi arr arr.slots.size.toInt32 = 13 := by
    unfold Jvm.Free.SL1IndexOf.Idx.hi
    rw [h13]
    decide
  unfold Jvm.Free.SL1IndexOf.Idx.answer
  rw [hh]
  by_cases hc : 0 ≤ c ∧ c ≤ 255
  · have hcan : Jvm.Free.SL1IndexOf.Can.can c = 1 := by unfold Jvm.Free.SL1IndexOf.Can.can; rw [if_pos hc]
    rw [hcan, if_neg (by decide), if_pos (by decide)]
    show Jvm.Free.SL1IndexOf.Chr.firstIdx (Jvm.Lib.StringLatin1.equals.intAt arr) c.toInt8.toInt32 0 13 = _
    rw [fidx_congr (g := fun j => zNS.getD j 0) 13 0 (fun k _ hk => hel k (by omega))]
    have h0 : 0 ≤ c.toInt := Int32.le_iff_toInt_le.mp hc.1
    have h1 : c.toInt ≤ 255 := Int32.le_iff_toInt_le.mp hc.2
    have e : Int32.ofNat c.toInt.toNat = c := by
      apply Int32.toInt_inj.mp
      rw [Int32.toInt_ofNat_of_lt (by omega)]
      omega
    have := zIx_lat ⟨c.toInt.toNat, by omega⟩
    rw [e] at this
    exact this
  · have hcan : Jvm.Free.SL1IndexOf.Can.can c = 0 := by unfold Jvm.Free.SL1IndexOf.Can.can; rw [if_neg hc]
    rw [hcan, if_pos rfl, zIx_out hc]
def zany3 (w : Cond) : Bool := lw_tbl.any (fun v => decide (v = w)) && goodWord w
theorem zany3_in {w : Cond} (h : zany3 w = true) : w ∈ zW := by
  obtain ⟨h1, h2⟩ := (Bool.and_eq_true _ _).mp h
  obtain ⟨v, m, g⟩ := List.any_eq_true.mp h1
  simp only [decide_eq_true_eq] at g
  subst g
  exact zW_of m h2
theorem decl_of {y : MethodName} {bytes : ByteArray} {maxL : Nat} {ret : Option FieldType} {A : Array Value} {s : State} (h1 : (Cond.code y bytes maxL ret).before A s = true) (h2 : (Cond.instanceMethod y).before A s = true) : (Cond.declares y).before A s = true := by
  obtain ⟨mk, meth, e1, e2, e3, e4⟩ := Cond.instanceMethod_spec h2
  obtain ⟨methX, cX, hmX, -, -, -, -, -, -, hsX⟩ := Cond.code_spec e1 h1
  cases e2.symm.trans hmX
  simp [Cond.before, Cond.holds, Cond.value, e1, e2, e3, hsX]
theorem ixc_1 : Cond.code Jvm.Free.StrIndexOf.indexOf1N Jvm.Free.StrIndexOf.indexOf1B 2 (some .int) ∈ zW := zW_of (zsub_5 (List.mem_of_getElem? (show tables_1_5[15]? = some (.code Jvm.Free.StrIndexOf.indexOf1N Jvm.Free.StrIndexOf.indexOf1B 2 (some .int)) from rfl))) rfl
theorem ixc_2 : Cond.code Jvm.Free.StrIndexOf.indexOf2N Jvm.Free.StrIndexOf.indexOf2B 3 (some .int) ∈ zW := zW_of (zsub_5 (List.mem_of_getElem? (show tables_1_5[19]? = some (.code Jvm.Free.StrIndexOf.indexOf2N Jvm.Free.StrIndexOf.indexOf2B 3 (some .int)) from rfl))) rfl
theorem ixc_il : Cond.code Jvm.Lib.Cold.isLatin1.x Jvm.Lib.String.isLatin1.code 1 (some .boolean) ∈ zW := zW_of (zsub_5 (List.mem_of_getElem? (show tables_1_5[23]? = some (.code Jvm.Lib.Cold.isLatin1.x Jvm.Lib.String.isLatin1.code 1 (some .boolean)) from rfl))) rfl
theorem ixc_ln : Cond.code Jvm.Lib.Cold.length.x Jvm.Lib.String.length.code 1 (some .int) ∈ zW := zW_of (zsub_5 (List.mem_of_getElem? (show tables_1_5[29]? = some (.code Jvm.Lib.Cold.length.x Jvm.Lib.String.length.code 1 (some .int)) from rfl))) rfl
theorem ixc_co : Cond.code Jvm.Lib.Cold.coder.x Jvm.Lib.String.coder.code 1 (some .byte) ∈ zW := zW_of (zsub_5 (List.mem_of_getElem? (show tables_1_5[33]? = some (.code Jvm.Lib.Cold.coder.x Jvm.Lib.String.coder.code 1 (some .byte)) from rfl))) rfl
theorem ixc_x : Cond.code Jvm.Free.SL1IndexOf.indexOfN Jvm.Free.SL1IndexOf.indexOfB 4 (some .int) ∈ zW := zW_of (zsub_5 (List.mem_of_getElem? (show tables_1_5[36]? = some (.code Jvm.Free.SL1IndexOf.indexOfN Jvm.Free.SL1IndexOf.indexOfB 4 (some .int)) from rfl))) rfl
theorem ixc_ce : Cond.code Jvm.Free.SL1IndexOf.canEncodeN Jvm.Free.SL1IndexOf.canEncodeB 1 (some .boolean) ∈ zW := zW_of (zsub_5 (List.mem_of_getElem? (show tables_1_5[39]? = some (.code Jvm.Free.SL1IndexOf.canEncodeN Jvm.Free.SL1IndexOf.canEncodeB 1 (some .boolean)) from rfl))) rfl
theorem ixc_ch : Cond.code Jvm.Free.SL1IndexOf.indexOfCharN Jvm.Free.SL1IndexOf.indexOfCharB 6 (some .int) ∈ zW := zW_of (zsub_5 (List.mem_of_getElem? (show tables_1_5[44]? = some (.code Jvm.Free.SL1IndexOf.indexOfCharN Jvm.Free.SL1IndexOf.indexOfCharB 6 (some .int)) from rfl))) rfl
theorem ixd_1 {A : Array Value} {s : State} (hts : ∀ w ∈ zW, w.before A s = true) : (Cond.declares Jvm.Free.StrIndexOf.indexOf1N).before A s = true := decl_of (hts _ ixc_1) (hts _ (zTab_mem (p := 1092) (w := .instanceMethod Jvm.Free.StrIndexOf.indexOf1N) (by decide +kernel)))
theorem ixd_2 {A : Array Value} {s : State} (hts : ∀ w ∈ zW, w.before A s = true) : (Cond.declares Jvm.Free.StrIndexOf.indexOf2N).before A s = true := decl_of (hts _ ixc_2) (hts _ (zTab_mem (p := 1096) (w := .instanceMethod Jvm.Free.StrIndexOf.indexOf2N) (by decide +kernel)))
theorem ixd_il {A : Array Value} {s : State} (hts : ∀ w ∈ zW, w.before A s = true) : (Cond.declares Jvm.Lib.Cold.isLatin1.x).before A s = true := decl_of (hts _ ixc_il) (hts _ (zTab_mem (p := 1100) (w := .instanceMethod Jvm.Lib.Cold.isLatin1.x) (by decide +kernel)))
theorem ixd_ln {A : Array Value} {s : State} (hts : ∀ w ∈ zW, w.before A s = true) : (Cond.declares Jvm.Lib.Cold.length.x).before A s = true := decl_of (hts _ ixc_ln) (hts _ (zTab_mem (p := 1106) (w := .instanceMethod Jvm.Lib.Cold.length.x) (by decide +kernel)))
theorem ixd_co {A : Array Value} {s : State} (hts : ∀ w ∈ zW, w.before A s = true) : (Cond.declares Jvm.Lib.Cold.coder.x).before A s = true := decl_of (hts _ ixc_co) (hts _ (zTab_mem (p := 1110) (w := .instanceMethod Jvm.Lib.Cold.coder.x) (by decide +kernel)))
theorem ix_tab {A : Array Value} {s : State} (hts : ∀ w ∈ zW, w.before A s = true) : (Jvm.Free.Str.dropHeap Jvm.Free.Str.Ix1.spec.pre).before A s = true := by
  have ht : (Cond.tt).before A s = true := rfl
  simp only [Jvm.Free.Str.Ix1.spec, Jvm.Free.StrIndexOf.S1.spec, Jvm.Free.Str.Ix2.spec, Jvm.Free.StrIndexOf.S2.spec, Jvm.Free.SL1IndexOf.Idx.tab, Jvm.Free.SL1IndexOf.Can.tab, Jvm.Free.SL1IndexOf.Chr.tab, Jvm.Free.Str.Ix2.calleeW, List.foldr, Jvm.Free.Str.dropHeap, Cond.before_and, Bool.and_eq_true]
  repeat' apply And.intro
  · exact hts _ ixc_1
  · exact ht
  · exact ht
  · exact hts _ (zTab_mem (p := 1095) (by decide +kernel))
  · exact ixd_2 hts
  · exact hts _ (zTab_mem (p := 1097) (by decide +kernel))
  · exact hts _ (zTab_mem (p := 1096) (by decide +kernel))
  · exact hts _ (zTab_mem (p := 137) (by decide +kernel))
  · exact hts _ ixc_2
  · exact ht
  · exact ht
  · exact hts _ (zTab_mem (p := 1099) (by decide +kernel))
  · exact ixd_il hts
  · exact hts _ (zTab_mem (p := 1101) (by decide +kernel))
  · exact hts _ (zTab_mem (p := 1100) (by decide +kernel))
  · exact hts _ (zTab_mem (p := 2431) (by decide +kernel))
  · exact hts _ (zTab_mem (p := 1105) (by decide +kernel))
  · exact ixd_ln hts
  · exact hts _ (zTab_mem (p := 1107) (by decide +kernel))
  · exact hts _ (zTab_mem (p := 1106) (by decide +kernel))
  · exact hts _ (zTab_mem (p := 1113) (by decide +kernel))
  · exact hts _ (zTab_mem (p := 1114) (by decide +kernel))
  · exact hts _ ixc_x
  · exact hts _ (zTab_mem (p := 1116) (by decide +kernel))
  · exact hts _ (zTab_mem (p := 1117) (by decide +kernel))
  · exact hts _ ixc_ce
  · exact hts _ (zTab_mem (p := 1119) (by decide +kernel))
  · exact hts _ zms_1010
  · exact hts _ zmc_1010
  · exact hts _ (zTab_mem (p := 1120) (by decide +kernel))
  · exact hts _ zms_1011
  · exact hts _ zmc_1011
  · exact hts _ zmi
  · exact hts _ (zTab_mem (p := 1121) (by decide +kernel))
  · exact hts _ (zTab_mem (p := 1122) (by decide +kernel))
  · exact hts _ ixc_ch
  · exact hts _ (zTab_mem (p := 138) (by decide +kernel))
  · exact hts _ (zTab_mem (p := 137) (by decide +kernel))
  · exact hts _ ixc_il
  · exact hts _ ixc_ln
  · exact hts _ (zTab_mem (p := 2431) (by decide +kernel))
  · exact hts _ (zTab_mem (p := 1109) (by decide +kernel))
  · exact ixd_co hts
  · exact hts _ (zTab_mem (p := 1111) (by decide +kernel))
  · exact hts _ (zTab_mem (p := 1110) (by decide +kernel))
  · exact hts _ (zTab_mem (p := 137) (by decide +kernel))
  · exact hts _ ixc_co
  · exact hts _ (zTab_mem (p := 1103) (by decide +kernel))
  · exact hts _ (zTab_mem (p := 2430) (by decide +kernel))
  · exact ht
theorem zix_ok : zmcp.all (fun q => !(Nat.beq q.2.2.1 1001) || (Nat.beq q.2.2.2.1 0 && zTab (q.2.2.2.2 + 119) (.methodLink (zCN q.1) q.2.1 Jvm.Free.StrIndexOf.indexOf1N))) = true := by decide +kernel
theorem z_linkI {o ix : Nat} (h : zmcp.any (fun q => Nat.beq q.1 o && Nat.beq q.2.1 ix && Nat.beq q.2.2.1 1001) = true) : Cond.methodLink (zCN o) ix Jvm.Free.StrIndexOf.indexOf1N ∈ zW := by
  obtain ⟨q, hq, hh⟩ := List.any_eq_true.mp h
  simp only [Bool.and_eq_true, Nat.beq_eq] at hh
  obtain ⟨⟨rfl, rfl⟩, h3⟩ := hh
  have h1 := List.all_eq_true.mp zix_ok q hq
  simp only [h3, show Nat.beq 1001 1001 = true from rfl, Bool.not_true, Bool.false_or, Bool.and_eq_true] at h1
  exact zTab_mem h1.2
theorem fld_keep {V U : State} (hal : V.vm.Alike U.vm) {a : Nat} {C : Cell} (h1 : V.heap[a]? = some C) (h2 : U.heap[a]? = some C) {o n d : String} {v : Value} (h : (Term.field (.arg 0) o n d).eval #[.ref a] V none [] V = some v) : (Term.field (.arg 0) o n d).eval #[.ref a] U none [] U = some v := by
  cases hfo : V.fieldFound? o n d with
  | none =>
    rw [va_fe (t := .arg 0) (a := a) rfl] at h
    simp [State.fieldOf?, State.fieldNamed?, hfo] at h
  | some x =>
    obtain ⟨cf, k, fi, f⟩ := x
    obtain ⟨s1, cell, s2, s3, s4, s5, s6⟩ := Term.field_spec (t := .arg 0) (a := a) hfo rfl h
    cases h1.symm.trans s2
    obtain ⟨k', hk', -⟩ := State.fieldFound?_setVm hal hfo
    exact Term.field_eval (t := .arg 0) (a := a) (s := U) hk' rfl s1 h2 s3 s4 (by rw [hal.assignable]; exact s5) s6
theorem ix_st {V U T s : State} {a d b0 : Nat} {C D : Cell} (hal : V.vm.Alike U.vm) (g2 : V.heap[a]? = some C) (c1 : U.heap[a]? = some C) (c2 : U.heap[d]? = some D) (g8 : (Cond.exactly (.arg 0) "java/lang/String").before #[.ref a] V = true)
    (g9 : (Term.field (.arg 0) "java/lang/String" "coder" "B").eval #[.ref a] V none [] V = some (.int 0)) (g10 : (Term.field (.arg 0) "java/lang/String" "value" "[B").eval #[.ref a] V none [] V = some (.ref d)) (g11 : V.isArrayOf D .byte) (g12 : D.vm ≠ .unknown) (g13 : D.slots.size = 13)
    (g14 : ∀ j : Nat, j < 13 → D.slots[j]? = some (.int (zNS.getD j 0))) (g15 : va_Z "java/lang/String" "COMPACT_STRINGS" "Z" (.int 1) (fun q => b0 ≤ q) U U.heap) : aSt a d 1 D U := by
  refine ⟨Jvm.Free.HMB.StrKey.exactly_keep hal g2 c1 g8, fld_keep hal g2 c1 g9, fld_keep hal g2 c1 g10, c2, State.isArrayOf_alike hal g11, g12, by rw [g13]; decide, fun i hi => ?_, ?_, by decide⟩
  · rw [g13] at hi
    unfold Jvm.Lib.StringLatin1.equals.intAt
    rw [g14 i hi]
  · obtain ⟨cf, kf, fi, f, a3, cell, z1, z2, z3, z4, z5, z6, z7, -⟩ := g15
    exact ⟨cf, fi, kf, f, a3, cell, z1, z2, z3, z4, z5, (fun e => by rw [e] at z6; cases z6), z7⟩
end STR
end

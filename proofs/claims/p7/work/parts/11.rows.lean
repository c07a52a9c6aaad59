-- ===== what our machine does, the machine does: one row an instruction =====
def acv (b0 : Nat) (ea : Nat → Nat) (v : Value) : Value := match v with
  | .ref k => .ref (b0 + k)
  | .retAddr x => .ref (ea x)
  | v => v
def acA (b0 : Nat) (x : vp_A) : vp_A := match x with
  | (n, .inr (.inr (.inr (.inr f)))) => (n, .inr (.inr (.inr (.inr (fun i => (f i).map (fun k => b0 + k))))))
  | x => x
def acc (b0 : Nat) (ea : Nat → Nat) (cA : Nat → ClassId) (x : aC) : va_E := match x with
  | .inl (t, y) => .inl (cA t, acA b0 y)
  | .inr (ci, fs) => .inr (ci, fs.map (acv b0 ea))
def awd (b0 : Nat) (ea : Nat → Nat) (cA : Nat → ClassId) (σ : List aC) : va_W := σ.mapIdx (fun k x => (b0 + k, acc b0 ea cA x))
theorem awd_get {b0 : Nat} {ea : Nat → Nat} {cA : Nat → ClassId} {σ : List aC} {k : Nat} {x : aC} (h : σ[k]? = some x) : (awd b0 ea cA σ)[k]? = some (b0 + k, acc b0 ea cA x) := by
  simp [awd, List.getElem?_mapIdx, h]
theorem awd_set {b0 : Nat} {ea : Nat → Nat} {cA : Nat → ClassId} {σ : List aC} (k : Nat) (x : aC) : (awd b0 ea cA σ).set k (b0 + k, acc b0 ea cA x) = awd b0 ea cA (σ.set k x) := by
  apply List.ext_getElem?
  intro i
  simp only [awd, List.getElem?_set, List.getElem?_mapIdx, List.length_mapIdx]
  by_cases h : k = i
  · subst h
    by_cases h2 : k < σ.length
    · simp [h2]
    · simp [h2]
  · simp [h]
theorem awd_push {b0 : Nat} {ea : Nat → Nat} {cA : Nat → ClassId} {σ : List aC} (x : aC) : awd b0 ea cA (σ ++ [x]) = awd b0 ea cA σ ++ [(b0 + σ.length, acc b0 ea cA x)] := by
  simp [awd, List.mapIdx_append]
theorem awd_in {b0 : Nat} {ea : Nat → Nat} {cA : Nat → ClassId} {σ : List aC} {k : Nat} {q : Nat × va_E} (h : (awd b0 ea cA σ)[k]? = some q) : q.1 = b0 + k := by
  simp only [awd, List.getElem?_mapIdx, Option.map_eq_some_iff] at h
  obtain ⟨x, -, rfl⟩ := h
  rfl
theorem awd_D {b0 : Nat} {ea : Nat → Nat} {cA : Nat → ClassId} {σ : List aC} : va_D (fun q => b0 ≤ q) (awd b0 ea cA σ) :=
  ⟨fun i j p q hi hj he => by rw [awd_in hi, awd_in hj] at he; omega, fun k q hk => by show b0 ≤ q.1; rw [awd_in hk]; exact Nat.le_add_right _ _⟩
abbrev atys (cA : Nat → ClassId) : List (ClassId × FieldType) := [(cA 0, .int), (cA 1, .long), (cA 2, .boolean), (cA 3, .byte), (cA 4, .object "AcresPaid$Season"), (cA 5, .array .int)]
/-- the one String constant: its cell, its bytes, and that Strings are compact -/
def aST (a : Nat) (A : Nat → Prop) (U : State) (H : Heap) : Prop :=
  ∃ (V : State) (d : Nat) (C D : Cell), V.vm.Alike U.vm ∧ (V.heap[a]? = some C ∧ H[a]? = some C ∧ ¬ A a) ∧ (V.heap[d]? = some D ∧ H[d]? = some D ∧ ¬ A d) ∧
    (Cond.exactly (.arg 0) "java/lang/String").before #[.ref a] V = true ∧ (Term.field (.arg 0) "java/lang/String" "coder" "B").eval #[.ref a] V none [] V = some (.int 0) ∧
    (Term.field (.arg 0) "java/lang/String" "value" "[B").eval #[.ref a] V none [] V = some (.ref d) ∧ V.isArrayOf D .byte ∧ D.vm ≠ .unknown ∧ D.slots.size = 13 ∧
    (∀ j : Nat, j < 13 → D.slots[j]? = some (.int (zNS.getD j 0))) ∧ va_Z "java/lang/String" "COMPACT_STRINGS" "Z" (.int 1) A U H
theorem aST.go {a b0 : Nat} {s U : State} (h : aST a (fun q => b0 ≤ q) s s.heap) (hal : s.vm.Alike U.vm) (hq : ∀ a : Nat, a < s.heap.size → ¬ b0 ≤ a → U.heap[a]? = s.heap[a]?) : aST a (fun q => b0 ≤ q) U U.heap := by
  obtain ⟨V, d, C, D, g1, ⟨g2, g3, g4⟩, ⟨g5, g6, g7⟩, g8, g9, g10, g11, g12, g13, g14, g15⟩ := h
  exact ⟨V, d, C, D, g1.trans hal, ⟨g2, (hq _ (Array.getElem?_eq_some_iff.mp g3).1 g4).trans g3, g4⟩, ⟨g5, (hq _ (Array.getElem?_eq_some_iff.mp g6).1 g7).trans g6, g7⟩, g8, g9, g10, g11, g12, g13, g14, (g15.moved hal).kept hq⟩
/-- what is known of the tables and of what lies outside our cells -/
def aKX (D : va_G) (cA : Nat → ClassId) (ea : Nat → Nat) (b0 : Nat) (X : aX) (U : State) : Prop :=
  va_K D zCl (atys cA) U ∧ (∀ (x n : Nat) (f : Nat → Int32), X x = some (n, f) → va_T .int (ea x) n (fun j => .int (f j)) (fun q => b0 ≤ q) U U.heap) ∧
  va_Z "AcresPaid" "ABOVE" "[I" (.ref (ea 0)) (fun q => b0 ≤ q) U U.heap ∧
  (∀ q ∈ zmcp, q.2.2.2.1 ≠ 0 → q.2.2.1 ≤ 1000 → va_Nw (.methodLinkNest (zCN q.1) q.2.1 (zyn q.2.2.1) "AcresPaid") U) ∧
  va_Nw (.fieldLinkNest "AcresPaid$Register" 49 "AcresPaid" "ABOVE" "[I" "AcresPaid") U ∧ va_AO "AcresPaid$Season" U ∧ (Cond.arrayOver (.array .int)).before #[] U = true ∧
  vk_R "AcresPaid$Texts" 114 "yksfgctlepmjb" (ea 2) U ∧ aST (ea 2) (fun q => b0 ≤ q) U U.heap
theorem aKX_go {D : va_G} {cA : Nat → ClassId} {ea : Nat → Nat} {b0 : Nat} {X : aX} {s U : State} (h : aKX D cA ea b0 X s) (hW : s.WarmedH U.vm) (hq : ∀ a : Nat, a < s.heap.size → ¬ b0 ≤ a → U.heap[a]? = s.heap[a]?) : aKX D cA ea b0 X U := by
  obtain ⟨h1, h2, h3, h4, h5, h6, h7, h8, h9⟩ := h
  exact ⟨h1.moved hW.alike, fun x n f e => ((h2 x n f e).moved hW.alike).kept hq, (h3.moved hW.alike).kept hq, fun q a b d => va_Nw.warmM hW (h4 q a b d), va_Nw.warmF hW h5, h6.moved hW.alike, over_moved hW.alike h7, h8.warm hW, h9.go hW.alike hq⟩
/-- the locals -/
def alR (b0 : Nat) (ea : Nat → Nat) (ls : Array Slot) (nL : Nat) (L : aL) : Prop := L.length = nL ∧ ls.size = nL ∧ lv_wf ls ∧ ∀ (i : Nat) (v : Value), aG L i = some v → ls[i]? = some (.val (acv b0 ea v))
abbrev aGm : Type := Program × Launch × Env × Room × State × MethodId × Array Value × List Frame × Method × Code × (State → Prop) × ByteArray × Nat × Nat × Nat × Nat × Nat × Nat × va_G × (Nat → ClassId) × (Nat → Nat) × aX

def aSW (Γ : aGm) (pc : Nat) (L : aL) (st : List Value) (h : aH) : Prop := match Γ with
  | (p, l, e, R, s, m, args, below, meth, c, Q, cc, nL, b0, n0, u0, own, kind, D, cA, ea, X) => ∀ (H : Heap) (locs : List Loc) (ls : Array Slot) (cells slots : Nat), n0 + cells = h.1.length → u0 + slots = h.2 → va_P D zCl (awd b0 ea cA h.1) H → va_S (fun q => b0 ≤ q) s.heap H locs → alR b0 ea ls nL L → W p l e R s m args below meth c H locs cells slots Q (F0 m pc ls (st.map (acv b0 ea)))
def aCF (Γ : aGm) : Prop := match Γ with
  | (p, l, e, R, s, m, args, below, meth, c, Q, cc, nL, b0, n0, u0, own, kind, D, cA, ea, X) => p.tables.exec = Jvm.exec ∧ c.code = cc ∧ c.maxLocals = nL ∧ s.vm.findClass (zCN own) = some m.cls ∧ (∀ w ∈ zW, w.before args s = true) ∧ aKX D cA ea b0 X s ∧ s.heap.size = b0 + n0 ∧ (kind = 2 → meth.name = "<init>")
def aDC (Γ : aGm) (pc : Nat) (i : Instr) (n : Nat) : Prop := match Γ with
  | (p, l, e, R, s, m, args, below, meth, c, Q, cc, nL, b0, n0, u0, own, kind, D, cA, ea, X) => decode cc pc = .ok (i, n)
/-- the room holds so many cells and slots as h has -/
def aRM (Γ : aGm) (h : aH) : Prop := match Γ with
  | (p, l, e, R, s, m, args, below, meth, c, Q, cc, nL, b0, n0, u0, own, kind, D, cA, ea, X) => h.1.length ≤ n0 + R.cells ∧ h.2 ≤ u0 + R.slots
def aown (Γ : aGm) : Nat := match Γ with
  | (p, l, e, R, s, m, args, below, meth, c, Q, cc, nL, b0, n0, u0, own, kind, D, cA, ea, X) => own
def akind (Γ : aGm) : Nat := match Γ with
  | (p, l, e, R, s, m, args, below, meth, c, Q, cc, nL, b0, n0, u0, own, kind, D, cA, ea, X) => kind
def aXX (Γ : aGm) : aX := match Γ with
  | (p, l, e, R, s, m, args, below, meth, c, Q, cc, nL, b0, n0, u0, own, kind, D, cA, ea, X) => X
section AZ
variable {Γ : aGm} {pc : Nat} {L : aL} {r : List Value} {h : aH}
theorem s_null  (C : aCF Γ) (hd : aDC Γ pc .aconst_null 1) (k : aSW Γ (pc + 1) L (.null :: r) h) : aSW Γ pc L r h := by
  obtain ⟨p, l, e, R, s, m, args, below, meth, c, Q, cc, nL, b0, n0, u0, own, kind, D, cA, ea, X⟩ := Γ
  intro H locs ls cells slots e1 e2 hP hS hl
  obtain ⟨hx, hb, hml, hown, hts, hKX, hsz, hki⟩ := C
  exact lv_null hx hb hd (k H locs ls cells slots e1 e2 hP hS hl)
theorem s_iconst {z : Int} (C : aCF Γ) (hd : aDC Γ pc (.iconst z) 1) (k : aSW Γ (pc + 1) L (.int (Int32.ofInt z) :: r) h) : aSW Γ pc L r h := by
  obtain ⟨p, l, e, R, s, m, args, below, meth, c, Q, cc, nL, b0, n0, u0, own, kind, D, cA, ea, X⟩ := Γ
  intro H locs ls cells slots e1 e2 hP hS hl
  obtain ⟨hx, hb, hml, hown, hts, hKX, hsz, hki⟩ := C
  exact lv_iconst hx hb hd rfl (k H locs ls cells slots e1 e2 hP hS hl)
theorem s_bipush {z : Int} (C : aCF Γ) (hd : aDC Γ pc (.bipush z) 2) (k : aSW Γ (pc + 2) L (.int (Int8.ofInt z).toInt32 :: r) h) : aSW Γ pc L r h := by
  obtain ⟨p, l, e, R, s, m, args, below, meth, c, Q, cc, nL, b0, n0, u0, own, kind, D, cA, ea, X⟩ := Γ
  intro H locs ls cells slots e1 e2 hP hS hl
  obtain ⟨hx, hb, hml, hown, hts, hKX, hsz, hki⟩ := C
  exact lv_bipush hx hb hd rfl (k H locs ls cells slots e1 e2 hP hS hl)
theorem s_sipush {z : Int} (C : aCF Γ) (hd : aDC Γ pc (.sipush z) 3) (k : aSW Γ (pc + 3) L (.int (Int16.ofInt z).toInt32 :: r) h) : aSW Γ pc L r h := by
  obtain ⟨p, l, e, R, s, m, args, below, meth, c, Q, cc, nL, b0, n0, u0, own, kind, D, cA, ea, X⟩ := Γ
  intro H locs ls cells slots e1 e2 hP hS hl
  obtain ⟨hx, hb, hml, hown, hts, hKX, hsz, hki⟩ := C
  exact lv_sipush hx hb hd rfl (k H locs ls cells slots e1 e2 hP hS hl)
theorem s_lconst {z : Fin 2} (C : aCF Γ) (hd : aDC Γ pc (.lconst z) 1) (k : aSW Γ (pc + 1) L (.long (Int64.ofNat z) :: r) h) : aSW Γ pc L r h := by
  obtain ⟨p, l, e, R, s, m, args, below, meth, c, Q, cc, nL, b0, n0, u0, own, kind, D, cA, ea, X⟩ := Γ
  intro H locs ls cells slots e1 e2 hP hS hl
  obtain ⟨hx, hb, hml, hown, hts, hKX, hsz, hki⟩ := C
  exact lv_lconst hx hb hd rfl (k H locs ls cells slots e1 e2 hP hS hl)
theorem s_ldc {ix : Nat} {v : Int32} (hw : Cond.constant (zCN (aown Γ)) ix v ∈ zW) (C : aCF Γ) (hd : aDC Γ pc (.ldc ix) 2) (k : aSW Γ (pc + 2) L (.int v :: r) h) : aSW Γ pc L r h := by
  obtain ⟨p, l, e, R, s, m, args, below, meth, c, Q, cc, nL, b0, n0, u0, own, kind, D, cA, ea, X⟩ := Γ
  intro H locs ls cells slots e1 e2 hP hS hl
  obtain ⟨hx, hb, hml, hown, hts, hKX, hsz, hki⟩ := C
  exact lv_ldc hx hb hown (hts _ hw) hd (k H locs ls cells slots e1 e2 hP hS hl)
theorem s_ldcw {ix : Nat} {v : Int32} (hw : Cond.constant (zCN (aown Γ)) ix v ∈ zW) (C : aCF Γ) (hd : aDC Γ pc (.ldc_w ix) 3) (k : aSW Γ (pc + 3) L (.int v :: r) h) : aSW Γ pc L r h := by
  obtain ⟨p, l, e, R, s, m, args, below, meth, c, Q, cc, nL, b0, n0, u0, own, kind, D, cA, ea, X⟩ := Γ
  intro H locs ls cells slots e1 e2 hP hS hl
  obtain ⟨hx, hb, hml, hown, hts, hKX, hsz, hki⟩ := C
  exact lv_ldcw hx hb hown (hts _ hw) hd (k H locs ls cells slots e1 e2 hP hS hl)
theorem s_ldc2 {ix : Nat} {v : Int64} (hw : Cond.constantLong (zCN (aown Γ)) ix v ∈ zW) (C : aCF Γ) (hd : aDC Γ pc (.ldc2_w ix) 3) (k : aSW Γ (pc + 3) L (.long v :: r) h) : aSW Γ pc L r h := by
  obtain ⟨p, l, e, R, s, m, args, below, meth, c, Q, cc, nL, b0, n0, u0, own, kind, D, cA, ea, X⟩ := Γ
  intro H locs ls cells slots e1 e2 hP hS hl
  obtain ⟨hx, hb, hml, hown, hts, hKX, hsz, hki⟩ := C
  exact lv_ldc2 hx hb hown (hts _ hw) hd (k H locs ls cells slots e1 e2 hP hS hl)
theorem s_iloadn {z : Fin 4} {x : Int32} (hg : aG L z = some (.int x)) (C : aCF Γ) (hd : aDC Γ pc (.iload_n z) 1) (k : aSW Γ (pc + 1) L (.int x :: r) h) : aSW Γ pc L r h := by
  obtain ⟨p, l, e, R, s, m, args, below, meth, c, Q, cc, nL, b0, n0, u0, own, kind, D, cA, ea, X⟩ := Γ
  intro H locs ls cells slots e1 e2 hP hS hl
  obtain ⟨hx, hb, hml, hown, hts, hKX, hsz, hki⟩ := C
  exact lv_iload_n hx hb hd rfl (hl.2.2.2 _ _ hg) (k H locs ls cells slots e1 e2 hP hS hl)
theorem s_iload {z : Nat} {x : Int32} (hg : aG L z = some (.int x)) (C : aCF Γ) (hd : aDC Γ pc (.iload z) 2) (k : aSW Γ (pc + 2) L (.int x :: r) h) : aSW Γ pc L r h := by
  obtain ⟨p, l, e, R, s, m, args, below, meth, c, Q, cc, nL, b0, n0, u0, own, kind, D, cA, ea, X⟩ := Γ
  intro H locs ls cells slots e1 e2 hP hS hl
  obtain ⟨hx, hb, hml, hown, hts, hKX, hsz, hki⟩ := C
  exact lv_iload hx hb hd (hl.2.2.2 _ _ hg) (k H locs ls cells slots e1 e2 hP hS hl)
theorem s_lloadn {z : Fin 4} {x : Int64} (hg : aG L z = some (.long x)) (C : aCF Γ) (hd : aDC Γ pc (.lload_n z) 1) (k : aSW Γ (pc + 1) L (.long x :: r) h) : aSW Γ pc L r h := by
  obtain ⟨p, l, e, R, s, m, args, below, meth, c, Q, cc, nL, b0, n0, u0, own, kind, D, cA, ea, X⟩ := Γ
  intro H locs ls cells slots e1 e2 hP hS hl
  obtain ⟨hx, hb, hml, hown, hts, hKX, hsz, hki⟩ := C
  exact lv_lload_n hx hb hd rfl (hl.2.2.2 _ _ hg) (k H locs ls cells slots e1 e2 hP hS hl)
theorem s_lload {z : Nat} {x : Int64} (hg : aG L z = some (.long x)) (C : aCF Γ) (hd : aDC Γ pc (.lload z) 2) (k : aSW Γ (pc + 2) L (.long x :: r) h) : aSW Γ pc L r h := by
  obtain ⟨p, l, e, R, s, m, args, below, meth, c, Q, cc, nL, b0, n0, u0, own, kind, D, cA, ea, X⟩ := Γ
  intro H locs ls cells slots e1 e2 hP hS hl
  obtain ⟨hx, hb, hml, hown, hts, hKX, hsz, hki⟩ := C
  exact lv_lload hx hb hd (hl.2.2.2 _ _ hg) (k H locs ls cells slots e1 e2 hP hS hl)
theorem s_aloadn_ref {z : Fin 4} {x : Nat} (hg : aG L z = some (.ref x)) (C : aCF Γ) (hd : aDC Γ pc (.aload_n z) 1) (k : aSW Γ (pc + 1) L (.ref x :: r) h) : aSW Γ pc L r h := by
  obtain ⟨p, l, e, R, s, m, args, below, meth, c, Q, cc, nL, b0, n0, u0, own, kind, D, cA, ea, X⟩ := Γ
  intro H locs ls cells slots e1 e2 hP hS hl
  obtain ⟨hx, hb, hml, hown, hts, hKX, hsz, hki⟩ := C
  exact lv_aload_n hx hb hd rfl (hl.2.2.2 _ _ hg) (k H locs ls cells slots e1 e2 hP hS hl)
theorem s_aload_ref {z : Nat} {x : Nat} (hg : aG L z = some (.ref x)) (C : aCF Γ) (hd : aDC Γ pc (.aload z) 2) (k : aSW Γ (pc + 2) L (.ref x :: r) h) : aSW Γ pc L r h := by
  obtain ⟨p, l, e, R, s, m, args, below, meth, c, Q, cc, nL, b0, n0, u0, own, kind, D, cA, ea, X⟩ := Γ
  intro H locs ls cells slots e1 e2 hP hS hl
  obtain ⟨hx, hb, hml, hown, hts, hKX, hsz, hki⟩ := C
  exact lv_aload hx hb hd (hl.2.2.2 _ _ hg) (k H locs ls cells slots e1 e2 hP hS hl)
theorem s_aloadn_ext {z : Fin 4} {x : Nat} (hg : aG L z = some (.retAddr x)) (C : aCF Γ) (hd : aDC Γ pc (.aload_n z) 1) (k : aSW Γ (pc + 1) L (.retAddr x :: r) h) : aSW Γ pc L r h := by
  obtain ⟨p, l, e, R, s, m, args, below, meth, c, Q, cc, nL, b0, n0, u0, own, kind, D, cA, ea, X⟩ := Γ
  intro H locs ls cells slots e1 e2 hP hS hl
  obtain ⟨hx, hb, hml, hown, hts, hKX, hsz, hki⟩ := C
  exact lv_aload_n hx hb hd rfl (hl.2.2.2 _ _ hg) (k H locs ls cells slots e1 e2 hP hS hl)
theorem s_aload_ext {z : Nat} {x : Nat} (hg : aG L z = some (.retAddr x)) (C : aCF Γ) (hd : aDC Γ pc (.aload z) 2) (k : aSW Γ (pc + 2) L (.retAddr x :: r) h) : aSW Γ pc L r h := by
  obtain ⟨p, l, e, R, s, m, args, below, meth, c, Q, cc, nL, b0, n0, u0, own, kind, D, cA, ea, X⟩ := Γ
  intro H locs ls cells slots e1 e2 hP hS hl
  obtain ⟨hx, hb, hml, hown, hts, hKX, hsz, hki⟩ := C
  exact lv_aload hx hb hd (hl.2.2.2 _ _ hg) (k H locs ls cells slots e1 e2 hP hS hl)
theorem s_aloadn_nul {z : Fin 4} (hg : aG L z = some (.null)) (C : aCF Γ) (hd : aDC Γ pc (.aload_n z) 1) (k : aSW Γ (pc + 1) L (.null :: r) h) : aSW Γ pc L r h := by
  obtain ⟨p, l, e, R, s, m, args, below, meth, c, Q, cc, nL, b0, n0, u0, own, kind, D, cA, ea, X⟩ := Γ
  intro H locs ls cells slots e1 e2 hP hS hl
  obtain ⟨hx, hb, hml, hown, hts, hKX, hsz, hki⟩ := C
  exact lv_aload_nN hx hb hd rfl (hl.2.2.2 _ _ hg) (k H locs ls cells slots e1 e2 hP hS hl)
theorem s_aload_nul {z : Nat} (hg : aG L z = some (.null)) (C : aCF Γ) (hd : aDC Γ pc (.aload z) 2) (k : aSW Γ (pc + 2) L (.null :: r) h) : aSW Γ pc L r h := by
  obtain ⟨p, l, e, R, s, m, args, below, meth, c, Q, cc, nL, b0, n0, u0, own, kind, D, cA, ea, X⟩ := Γ
  intro H locs ls cells slots e1 e2 hP hS hl
  obtain ⟨hx, hb, hml, hown, hts, hKX, hsz, hki⟩ := C
  exact lv_aloadN hx hb hd (hl.2.2.2 _ _ hg) (k H locs ls cells slots e1 e2 hP hS hl)
theorem aG_lt {L : aL} {i : Nat} {v : Value} (h : aG L i = some v) : L[i]? = some (some v) := by
  unfold aG at h
  split at h
  · rename_i w hw
    cases h
    exact hw
  · cases h
theorem aG_of {L : aL} {i : Nat} {v : Value} (h : L[i]? = some (some v)) : aG L i = some v := by
  simp [aG, h]
/-- the listed values of the locals -/
def alst (b0 : Nat) (ea : Nat → Nat) (L : aL) : List (Nat × Value) := (List.range L.length).filterMap (fun i => (aG L i).map (fun v => (i, acv b0 ea v)))
theorem alst_mem {b0 : Nat} {ea : Nat → Nat} {L : aL} {i : Nat} {v : Value} (h : aG L i = some v) : (i, acv b0 ea v) ∈ alst b0 ea L := by
  refine List.mem_filterMap.mpr ⟨i, List.mem_range.mpr ?_, by rw [h]; rfl⟩
  exact (List.getElem?_eq_some_iff.mp (aG_lt h)).1
theorem alst_has {b0 : Nat} {ea : Nat → Nat} {ls : Array Slot} {nL : Nat} {L : aL} (h : alR b0 ea ls nL L) : lv_has ls nL (alst b0 ea L) := by
  refine ⟨h.2.1, h.2.2.1, fun q hq => ?_⟩
  obtain ⟨i, -, hi⟩ := List.mem_filterMap.mp hq
  obtain ⟨v, hv, rfl⟩ := Option.map_eq_some_iff.mp hi
  exact h.2.2.2 i v hv
theorem aclr_len {L : aL} {i : Nat} : (aclr L i).length = L.length := by
  unfold aclr
  split
  · rfl
  · split
    · exact List.length_set
    · exact List.length_set
    · rfl
theorem acv_cat {b0 : Nat} {ea : Nat → Nat} (v : Value) : (acv b0 ea v).category = v.category := by cases v <;> rfl
/-- what is left of the locals behind a store at i -/
theorem aclr_get {L : aL} {i j : Nat} {v : Value} (h : (aclr L i)[j]? = some (some v)) : L[j]? = some (some v) ∧ ¬ (j + 1 = i ∧ v.category = 2) := by
  unfold aclr at h
  split at h
  · exact ⟨h, fun q => absurd q.1 (by omega)⟩
  · rename_i k
    have hs : ∀ (h : (L.set k none)[j]? = some (some v)), L[j]? = some (some v) ∧ ¬ (j + 1 = k + 1 ∧ v.category = 2) := by
      intro h
      rw [List.getElem?_set] at h
      by_cases e : k = j
      · subst e
        rw [if_pos rfl] at h
        split at h
        · cases h
        · cases h
      · rw [if_neg e] at h
        exact ⟨h, fun q => e (by omega)⟩
    split at h
    · exact hs h
    · exact hs h
    · rename_i hn1 hn2
      refine ⟨h, fun q => ?_⟩
      obtain ⟨q1, q2⟩ := q
      have : j = k := by omega
      subst this
      cases v with
      | long x => exact hn1 x h
      | double x => exact hn2 x h
      | _ => simp [Value.category] at q2
theorem alR_S1 {b0 : Nat} {ea : Nat → Nat} {ls ls' : Array Slot} {nL i : Nat} {L : aL} {v : Value} (h : alR b0 ea ls nL L) (hi : i < L.length) (hc : v.category = 1)
    (h' : lv_has ls' nL ((i, acv b0 ea v) :: (alst b0 ea L).filter (fun q => !(q.1 == i) && !(q.1 + 1 == i && q.2.category == 2)))) : alR b0 ea ls' nL (aS1 L i v) := by
  refine ⟨by rw [aS1, List.length_set, aclr_len]; exact h.1, h'.1, h'.2.1, fun j w hw => ?_⟩
  have hw := aG_lt hw
  rw [aS1, List.getElem?_set] at hw
  by_cases e : i = j
  · subst e
    rw [if_pos rfl] at hw
    split at hw
    · cases hw
      exact h'.2.2 _ List.mem_cons_self
    · cases hw
  · rw [if_neg e] at hw
    obtain ⟨g1, g2⟩ := aclr_get hw
    refine h'.2.2 (j, acv b0 ea w) (List.mem_cons_of_mem _ (List.mem_filter.mpr ⟨alst_mem (aG_of g1), ?_⟩))
    simp only [acv_cat]
    have e1 : (j == i) = false := by simp; omega
    rw [e1]
    by_cases e2 : j + 1 = i
    · have : ¬ w.category = 2 := fun q => g2 ⟨e2, q⟩
      simp [this]
    · simp [e2]
theorem alR_S2 {b0 : Nat} {ea : Nat → Nat} {ls ls' : Array Slot} {nL i : Nat} {L : aL} {v : Value} (h : alR b0 ea ls nL L) (hi : i + 1 < L.length)
    (h' : lv_has ls' nL ((i, acv b0 ea v) :: (alst b0 ea L).filter (fun q => !(q.1 == i) && (!(q.1 == i + 1) && !(q.1 + 1 == i && q.2.category == 2))))) : alR b0 ea ls' nL (aS2 L i v) := by
  refine ⟨by rw [aS2, List.length_set, List.length_set, aclr_len]; exact h.1, h'.1, h'.2.1, fun j w hw => ?_⟩
  have hw := aG_lt hw
  rw [aS2, List.getElem?_set] at hw
  by_cases e0 : i + 1 = j
  · rw [if_pos e0] at hw
    split at hw
    · cases hw
    · cases hw
  rw [if_neg e0, List.getElem?_set] at hw
  by_cases e : i = j
  · subst e
    rw [if_pos rfl] at hw
    split at hw
    · cases hw
      exact h'.2.2 _ List.mem_cons_self
    · cases hw
  · rw [if_neg e] at hw
    obtain ⟨g1, g2⟩ := aclr_get hw
    refine h'.2.2 (j, acv b0 ea w) (List.mem_cons_of_mem _ (List.mem_filter.mpr ⟨alst_mem (aG_of g1), ?_⟩))
    simp only [acv_cat]
    have e1 : (j == i) = false := by simp; omega
    have e3 : (j == i + 1) = false := by simp; omega
    rw [e1, e3]
    by_cases e2 : j + 1 = i
    · have : ¬ w.category = 2 := fun q => g2 ⟨e2, q⟩
      simp [this]
    · simp [e2]
theorem s_istoren {z : Fin 4} {x : Int32} (hz : (z : Nat) < L.length) (C : aCF Γ) (hd : aDC Γ pc (.istore_n z) 1) (k : aSW Γ (pc + 1) (aS1 L z (.int x)) r h) : aSW Γ pc L (.int x :: r) h := by
  obtain ⟨p, l, e, R, s, m, args, below, meth, c, Q, cc, nL, b0, n0, u0, own, kind, D, cA, ea, X⟩ := Γ
  intro H locs ls cells slots e1 e2 hP hS hl
  obtain ⟨hx, hb, hml, hown, hts, hKX, hsz, hki⟩ := C
  exact lv_istore_n hx hb hd rfl (alst_has hl) (by rw [← hl.1]; exact hz) rfl (fun ls' hl' => k H locs ls' cells slots e1 e2 hP hS (alR_S1 (v := .int x) hl hz rfl hl'))
theorem s_astoren {z : Fin 4} {x : Nat} (hz : (z : Nat) < L.length) (C : aCF Γ) (hd : aDC Γ pc (.astore_n z) 1) (k : aSW Γ (pc + 1) (aS1 L z (.ref x)) r h) : aSW Γ pc L (.ref x :: r) h := by
  obtain ⟨p, l, e, R, s, m, args, below, meth, c, Q, cc, nL, b0, n0, u0, own, kind, D, cA, ea, X⟩ := Γ
  intro H locs ls cells slots e1 e2 hP hS hl
  obtain ⟨hx, hb, hml, hown, hts, hKX, hsz, hki⟩ := C
  exact lv_astore_n hx hb hd rfl (alst_has hl) (by rw [← hl.1]; exact hz) rfl (fun ls' hl' => k H locs ls' cells slots e1 e2 hP hS (alR_S1 (v := .ref x) hl hz rfl hl'))
theorem s_astoreNn {z : Fin 4} (hz : (z : Nat) < L.length) (C : aCF Γ) (hd : aDC Γ pc (.astore_n z) 1) (k : aSW Γ (pc + 1) (aS1 L z .null) r h) : aSW Γ pc L (.null :: r) h := by
  obtain ⟨p, l, e, R, s, m, args, below, meth, c, Q, cc, nL, b0, n0, u0, own, kind, D, cA, ea, X⟩ := Γ
  intro H locs ls cells slots e1 e2 hP hS hl
  obtain ⟨hx, hb, hml, hown, hts, hKX, hsz, hki⟩ := C
  exact lv_astore_nN hx hb hd rfl (alst_has hl) (by rw [← hl.1]; exact hz) rfl (fun ls' hl' => k H locs ls' cells slots e1 e2 hP hS (alR_S1 (v := .null) hl hz rfl hl'))
theorem s_lstoren {z : Fin 4} {x : Int64} (hz : (z : Nat) + 1 < L.length) (C : aCF Γ) (hd : aDC Γ pc (.lstore_n z) 1) (k : aSW Γ (pc + 1) (aS2 L z (.long x)) r h) : aSW Γ pc L (.long x :: r) h := by
  obtain ⟨p, l, e, R, s, m, args, below, meth, c, Q, cc, nL, b0, n0, u0, own, kind, D, cA, ea, X⟩ := Γ
  intro H locs ls cells slots e1 e2 hP hS hl
  obtain ⟨hx, hb, hml, hown, hts, hKX, hsz, hki⟩ := C
  exact lv_lstore_n hx hb hd rfl (alst_has hl) (by rw [← hl.1]; exact hz) rfl (fun ls' hl' => k H locs ls' cells slots e1 e2 hP hS (alR_S2 (v := .long x) hl hz hl'))
theorem s_istore {z : Nat} {x : Int32} (hz : (z : Nat) < L.length) (C : aCF Γ) (hd : aDC Γ pc (.istore z) 2) (k : aSW Γ (pc + 2) (aS1 L z (.int x)) r h) : aSW Γ pc L (.int x :: r) h := by
  obtain ⟨p, l, e, R, s, m, args, below, meth, c, Q, cc, nL, b0, n0, u0, own, kind, D, cA, ea, X⟩ := Γ
  intro H locs ls cells slots e1 e2 hP hS hl
  obtain ⟨hx, hb, hml, hown, hts, hKX, hsz, hki⟩ := C
  exact lv_istore hx hb hd (alst_has hl) (by rw [← hl.1]; exact hz) rfl (fun ls' hl' => k H locs ls' cells slots e1 e2 hP hS (alR_S1 (v := .int x) hl hz rfl hl'))
theorem s_astore {z : Nat} {x : Nat} (hz : (z : Nat) < L.length) (C : aCF Γ) (hd : aDC Γ pc (.astore z) 2) (k : aSW Γ (pc + 2) (aS1 L z (.ref x)) r h) : aSW Γ pc L (.ref x :: r) h := by
  obtain ⟨p, l, e, R, s, m, args, below, meth, c, Q, cc, nL, b0, n0, u0, own, kind, D, cA, ea, X⟩ := Γ
  intro H locs ls cells slots e1 e2 hP hS hl
  obtain ⟨hx, hb, hml, hown, hts, hKX, hsz, hki⟩ := C
  exact lv_astore hx hb hd (alst_has hl) (by rw [← hl.1]; exact hz) rfl (fun ls' hl' => k H locs ls' cells slots e1 e2 hP hS (alR_S1 (v := .ref x) hl hz rfl hl'))
theorem s_astoreN {z : Nat} (hz : (z : Nat) < L.length) (C : aCF Γ) (hd : aDC Γ pc (.astore z) 2) (k : aSW Γ (pc + 2) (aS1 L z .null) r h) : aSW Γ pc L (.null :: r) h := by
  obtain ⟨p, l, e, R, s, m, args, below, meth, c, Q, cc, nL, b0, n0, u0, own, kind, D, cA, ea, X⟩ := Γ
  intro H locs ls cells slots e1 e2 hP hS hl
  obtain ⟨hx, hb, hml, hown, hts, hKX, hsz, hki⟩ := C
  exact lv_astoreN hx hb hd (alst_has hl) (by rw [← hl.1]; exact hz) rfl (fun ls' hl' => k H locs ls' cells slots e1 e2 hP hS (alR_S1 (v := .null) hl hz rfl hl'))
theorem s_lstore {z : Nat} {x : Int64} (hz : (z : Nat) + 1 < L.length) (C : aCF Γ) (hd : aDC Γ pc (.lstore z) 2) (k : aSW Γ (pc + 2) (aS2 L z (.long x)) r h) : aSW Γ pc L (.long x :: r) h := by
  obtain ⟨p, l, e, R, s, m, args, below, meth, c, Q, cc, nL, b0, n0, u0, own, kind, D, cA, ea, X⟩ := Γ
  intro H locs ls cells slots e1 e2 hP hS hl
  obtain ⟨hx, hb, hml, hown, hts, hKX, hsz, hki⟩ := C
  exact lv_lstore hx hb hd (alst_has hl) (by rw [← hl.1]; exact hz) rfl (fun ls' hl' => k H locs ls' cells slots e1 e2 hP hS (alR_S2 (v := .long x) hl hz hl'))
theorem s_iinc {z : Nat} {n : Int} {x : Int32} (hg : aG L z = some (.int x)) (C : aCF Γ) (hd : aDC Γ pc (.iinc z n) 3) (k : aSW Γ (pc + 3) (aS1 L z (.int (x + Int32.ofInt n))) r h) : aSW Γ pc L r h := by
  obtain ⟨p, l, e, R, s, m, args, below, meth, c, Q, cc, nL, b0, n0, u0, own, kind, D, cA, ea, X⟩ := Γ
  intro H locs ls cells slots e1 e2 hP hS hl
  obtain ⟨hx, hb, hml, hown, hts, hKX, hsz, hki⟩ := C
  have hz : z < L.length := (List.getElem?_eq_some_iff.mp (aG_lt hg)).1
  obtain ⟨j, hj⟩ := List.getElem?_of_mem (alst_mem (b0 := b0) (ea := ea) hg)
  exact lv_iinc (x := x) (v := x + Int32.ofInt n) hx hb hd (alst_has hl) (k := j) hj rfl (by rw [← hl.1]; exact hz) rfl (fun ls' hl' => k H locs ls' cells slots e1 e2 hP hS (alR_S1 (v := .int (x + Int32.ofInt n)) hl hz rfl hl'))
theorem s_iadd {x : Int32} {y : Int32}  (C : aCF Γ) (hd : aDC Γ pc .iadd 1) (k : aSW Γ (pc + 1) L (.int (x + y) :: r) h) : aSW Γ pc L (.int y :: .int x :: r) h := by
  obtain ⟨p, l, e, R, s, m, args, below, meth, c, Q, cc, nL, b0, n0, u0, own, kind, D, cA, ea, X⟩ := Γ
  intro H locs ls cells slots e1 e2 hP hS hl
  obtain ⟨hx, hb, hml, hown, hts, hKX, hsz, hki⟩ := C
  exact lv_iadd hx hb hd (k H locs ls cells slots e1 e2 hP hS hl)
theorem s_isub {x : Int32} {y : Int32}  (C : aCF Γ) (hd : aDC Γ pc .isub 1) (k : aSW Γ (pc + 1) L (.int (x - y) :: r) h) : aSW Γ pc L (.int y :: .int x :: r) h := by
  obtain ⟨p, l, e, R, s, m, args, below, meth, c, Q, cc, nL, b0, n0, u0, own, kind, D, cA, ea, X⟩ := Γ
  intro H locs ls cells slots e1 e2 hP hS hl
  obtain ⟨hx, hb, hml, hown, hts, hKX, hsz, hki⟩ := C
  exact lv_isub hx hb hd (k H locs ls cells slots e1 e2 hP hS hl)
theorem s_imul {x : Int32} {y : Int32}  (C : aCF Γ) (hd : aDC Γ pc .imul 1) (k : aSW Γ (pc + 1) L (.int (x * y) :: r) h) : aSW Γ pc L (.int y :: .int x :: r) h := by
  obtain ⟨p, l, e, R, s, m, args, below, meth, c, Q, cc, nL, b0, n0, u0, own, kind, D, cA, ea, X⟩ := Γ
  intro H locs ls cells slots e1 e2 hP hS hl
  obtain ⟨hx, hb, hml, hown, hts, hKX, hsz, hki⟩ := C
  exact lv_imul hx hb hd (k H locs ls cells slots e1 e2 hP hS hl)
theorem s_iand {x : Int32} {y : Int32}  (C : aCF Γ) (hd : aDC Γ pc .iand 1) (k : aSW Γ (pc + 1) L (.int (x &&& y) :: r) h) : aSW Γ pc L (.int y :: .int x :: r) h := by
  obtain ⟨p, l, e, R, s, m, args, below, meth, c, Q, cc, nL, b0, n0, u0, own, kind, D, cA, ea, X⟩ := Γ
  intro H locs ls cells slots e1 e2 hP hS hl
  obtain ⟨hx, hb, hml, hown, hts, hKX, hsz, hki⟩ := C
  exact lv_iand hx hb hd (k H locs ls cells slots e1 e2 hP hS hl)
theorem s_ior {x : Int32} {y : Int32}  (C : aCF Γ) (hd : aDC Γ pc .ior 1) (k : aSW Γ (pc + 1) L (.int (x ||| y) :: r) h) : aSW Γ pc L (.int y :: .int x :: r) h := by
  obtain ⟨p, l, e, R, s, m, args, below, meth, c, Q, cc, nL, b0, n0, u0, own, kind, D, cA, ea, X⟩ := Γ
  intro H locs ls cells slots e1 e2 hP hS hl
  obtain ⟨hx, hb, hml, hown, hts, hKX, hsz, hki⟩ := C
  exact lv_ior hx hb hd (k H locs ls cells slots e1 e2 hP hS hl)
theorem s_ixor {x : Int32} {y : Int32}  (C : aCF Γ) (hd : aDC Γ pc .ixor 1) (k : aSW Γ (pc + 1) L (.int (x ^^^ y) :: r) h) : aSW Γ pc L (.int y :: .int x :: r) h := by
  obtain ⟨p, l, e, R, s, m, args, below, meth, c, Q, cc, nL, b0, n0, u0, own, kind, D, cA, ea, X⟩ := Γ
  intro H locs ls cells slots e1 e2 hP hS hl
  obtain ⟨hx, hb, hml, hown, hts, hKX, hsz, hki⟩ := C
  exact lv_ixor hx hb hd (k H locs ls cells slots e1 e2 hP hS hl)
theorem s_ishl {x : Int32} {y : Int32}  (C : aCF Γ) (hd : aDC Γ pc .ishl 1) (k : aSW Γ (pc + 1) L (.int (x <<< (y &&& 31)) :: r) h) : aSW Γ pc L (.int y :: .int x :: r) h := by
  obtain ⟨p, l, e, R, s, m, args, below, meth, c, Q, cc, nL, b0, n0, u0, own, kind, D, cA, ea, X⟩ := Γ
  intro H locs ls cells slots e1 e2 hP hS hl
  obtain ⟨hx, hb, hml, hown, hts, hKX, hsz, hki⟩ := C
  exact lv_ishl hx hb hd (k H locs ls cells slots e1 e2 hP hS hl)
theorem s_ishr {x : Int32} {y : Int32}  (C : aCF Γ) (hd : aDC Γ pc .ishr 1) (k : aSW Γ (pc + 1) L (.int (x >>> (y &&& 31)) :: r) h) : aSW Γ pc L (.int y :: .int x :: r) h := by
  obtain ⟨p, l, e, R, s, m, args, below, meth, c, Q, cc, nL, b0, n0, u0, own, kind, D, cA, ea, X⟩ := Γ
  intro H locs ls cells slots e1 e2 hP hS hl
  obtain ⟨hx, hb, hml, hown, hts, hKX, hsz, hki⟩ := C
  exact lv_ishr hx hb hd (k H locs ls cells slots e1 e2 hP hS hl)
theorem s_iushr {x : Int32} {y : Int32}  (C : aCF Γ) (hd : aDC Γ pc .iushr 1) (k : aSW Γ (pc + 1) L (.int ((x.toUInt32 >>> (y.toUInt32 &&& Int32.toUInt32 31)).toInt32) :: r) h) : aSW Γ pc L (.int y :: .int x :: r) h := by
  obtain ⟨p, l, e, R, s, m, args, below, meth, c, Q, cc, nL, b0, n0, u0, own, kind, D, cA, ea, X⟩ := Γ
  intro H locs ls cells slots e1 e2 hP hS hl
  obtain ⟨hx, hb, hml, hown, hts, hKX, hsz, hki⟩ := C
  exact lv_iushr hx hb hd rfl (k H locs ls cells slots e1 e2 hP hS hl)
theorem s_idiv {x : Int32} {y : Int32} (hne : ¬ y = 0)  (C : aCF Γ) (hd : aDC Γ pc .idiv 1) (k : aSW Γ (pc + 1) L (.int (x / y) :: r) h) : aSW Γ pc L (.int y :: .int x :: r) h := by
  obtain ⟨p, l, e, R, s, m, args, below, meth, c, Q, cc, nL, b0, n0, u0, own, kind, D, cA, ea, X⟩ := Γ
  intro H locs ls cells slots e1 e2 hP hS hl
  obtain ⟨hx, hb, hml, hown, hts, hKX, hsz, hki⟩ := C
  exact lv_idiv hx hb hd hne (k H locs ls cells slots e1 e2 hP hS hl)
theorem s_irem {x : Int32} {y : Int32} (hne : ¬ y = 0)  (C : aCF Γ) (hd : aDC Γ pc .irem 1) (k : aSW Γ (pc + 1) L (.int (x - x / y * y) :: r) h) : aSW Γ pc L (.int y :: .int x :: r) h := by
  obtain ⟨p, l, e, R, s, m, args, below, meth, c, Q, cc, nL, b0, n0, u0, own, kind, D, cA, ea, X⟩ := Γ
  intro H locs ls cells slots e1 e2 hP hS hl
  obtain ⟨hx, hb, hml, hown, hts, hKX, hsz, hki⟩ := C
  exact lv_irem hx hb hd hne (k H locs ls cells slots e1 e2 hP hS hl)
theorem s_ladd {x : Int64} {y : Int64}  (C : aCF Γ) (hd : aDC Γ pc .ladd 1) (k : aSW Γ (pc + 1) L (.long (x + y) :: r) h) : aSW Γ pc L (.long y :: .long x :: r) h := by
  obtain ⟨p, l, e, R, s, m, args, below, meth, c, Q, cc, nL, b0, n0, u0, own, kind, D, cA, ea, X⟩ := Γ
  intro H locs ls cells slots e1 e2 hP hS hl
  obtain ⟨hx, hb, hml, hown, hts, hKX, hsz, hki⟩ := C
  exact lv_ladd hx hb hd (k H locs ls cells slots e1 e2 hP hS hl)
theorem s_lsub {x : Int64} {y : Int64}  (C : aCF Γ) (hd : aDC Γ pc .lsub 1) (k : aSW Γ (pc + 1) L (.long (x - y) :: r) h) : aSW Γ pc L (.long y :: .long x :: r) h := by
  obtain ⟨p, l, e, R, s, m, args, below, meth, c, Q, cc, nL, b0, n0, u0, own, kind, D, cA, ea, X⟩ := Γ
  intro H locs ls cells slots e1 e2 hP hS hl
  obtain ⟨hx, hb, hml, hown, hts, hKX, hsz, hki⟩ := C
  exact lv_lsub hx hb hd (k H locs ls cells slots e1 e2 hP hS hl)
theorem s_lmul {x : Int64} {y : Int64}  (C : aCF Γ) (hd : aDC Γ pc .lmul 1) (k : aSW Γ (pc + 1) L (.long (x * y) :: r) h) : aSW Γ pc L (.long y :: .long x :: r) h := by
  obtain ⟨p, l, e, R, s, m, args, below, meth, c, Q, cc, nL, b0, n0, u0, own, kind, D, cA, ea, X⟩ := Γ
  intro H locs ls cells slots e1 e2 hP hS hl
  obtain ⟨hx, hb, hml, hown, hts, hKX, hsz, hki⟩ := C
  exact lv_lmul hx hb hd (k H locs ls cells slots e1 e2 hP hS hl)
theorem s_land {x : Int64} {y : Int64}  (C : aCF Γ) (hd : aDC Γ pc .land 1) (k : aSW Γ (pc + 1) L (.long (x &&& y) :: r) h) : aSW Γ pc L (.long y :: .long x :: r) h := by
  obtain ⟨p, l, e, R, s, m, args, below, meth, c, Q, cc, nL, b0, n0, u0, own, kind, D, cA, ea, X⟩ := Γ
  intro H locs ls cells slots e1 e2 hP hS hl
  obtain ⟨hx, hb, hml, hown, hts, hKX, hsz, hki⟩ := C
  exact lv_land hx hb hd (k H locs ls cells slots e1 e2 hP hS hl)
theorem s_lor {x : Int64} {y : Int64}  (C : aCF Γ) (hd : aDC Γ pc .lor 1) (k : aSW Γ (pc + 1) L (.long (x ||| y) :: r) h) : aSW Γ pc L (.long y :: .long x :: r) h := by
  obtain ⟨p, l, e, R, s, m, args, below, meth, c, Q, cc, nL, b0, n0, u0, own, kind, D, cA, ea, X⟩ := Γ
  intro H locs ls cells slots e1 e2 hP hS hl
  obtain ⟨hx, hb, hml, hown, hts, hKX, hsz, hki⟩ := C
  exact lv_lor hx hb hd (k H locs ls cells slots e1 e2 hP hS hl)
theorem s_ldiv {x : Int64} {y : Int64} (hne : ¬ y = 0)  (C : aCF Γ) (hd : aDC Γ pc .ldiv 1) (k : aSW Γ (pc + 1) L (.long (x / y) :: r) h) : aSW Γ pc L (.long y :: .long x :: r) h := by
  obtain ⟨p, l, e, R, s, m, args, below, meth, c, Q, cc, nL, b0, n0, u0, own, kind, D, cA, ea, X⟩ := Γ
  intro H locs ls cells slots e1 e2 hP hS hl
  obtain ⟨hx, hb, hml, hown, hts, hKX, hsz, hki⟩ := C
  exact lv_ldiv hx hb hd hne (k H locs ls cells slots e1 e2 hP hS hl)
theorem s_lrem {x : Int64} {y : Int64} (hne : ¬ y = 0)  (C : aCF Γ) (hd : aDC Γ pc .lrem 1) (k : aSW Γ (pc + 1) L (.long (x - x / y * y) :: r) h) : aSW Γ pc L (.long y :: .long x :: r) h := by
  obtain ⟨p, l, e, R, s, m, args, below, meth, c, Q, cc, nL, b0, n0, u0, own, kind, D, cA, ea, X⟩ := Γ
  intro H locs ls cells slots e1 e2 hP hS hl
  obtain ⟨hx, hb, hml, hown, hts, hKX, hsz, hki⟩ := C
  exact lv_lrem hx hb hd hne (k H locs ls cells slots e1 e2 hP hS hl)
theorem s_lshl {x : Int64} {y : Int32}  (C : aCF Γ) (hd : aDC Γ pc .lshl 1) (k : aSW Γ (pc + 1) L (.long (x <<< (y.toInt64 &&& 63)) :: r) h) : aSW Γ pc L (.int y :: .long x :: r) h := by
  obtain ⟨p, l, e, R, s, m, args, below, meth, c, Q, cc, nL, b0, n0, u0, own, kind, D, cA, ea, X⟩ := Γ
  intro H locs ls cells slots e1 e2 hP hS hl
  obtain ⟨hx, hb, hml, hown, hts, hKX, hsz, hki⟩ := C
  exact lv_lshl hx hb hd rfl (k H locs ls cells slots e1 e2 hP hS hl)
theorem s_lcmp {x : Int64} {y : Int64}  (C : aCF Γ) (hd : aDC Γ pc .lcmp 1) (k : aSW Γ (pc + 1) L (.int (lg_cmp x y) :: r) h) : aSW Γ pc L (.long y :: .long x :: r) h := by
  obtain ⟨p, l, e, R, s, m, args, below, meth, c, Q, cc, nL, b0, n0, u0, own, kind, D, cA, ea, X⟩ := Γ
  intro H locs ls cells slots e1 e2 hP hS hl
  obtain ⟨hx, hb, hml, hown, hts, hKX, hsz, hki⟩ := C
  exact W.lcmp hx hb hd (k H locs ls cells slots e1 e2 hP hS hl)
theorem s_ineg {x : Int32} (C : aCF Γ) (hd : aDC Γ pc .ineg 1) (k : aSW Γ (pc + 1) L (.int (-x) :: r) h) : aSW Γ pc L (.int x :: r) h := by
  obtain ⟨p, l, e, R, s, m, args, below, meth, c, Q, cc, nL, b0, n0, u0, own, kind, D, cA, ea, X⟩ := Γ
  intro H locs ls cells slots e1 e2 hP hS hl
  obtain ⟨hx, hb, hml, hown, hts, hKX, hsz, hki⟩ := C
  exact lv_ineg hx hb hd (k H locs ls cells slots e1 e2 hP hS hl)
theorem s_i2l {x : Int32} (C : aCF Γ) (hd : aDC Γ pc .i2l 1) (k : aSW Γ (pc + 1) L (.long (x.toInt64) :: r) h) : aSW Γ pc L (.int x :: r) h := by
  obtain ⟨p, l, e, R, s, m, args, below, meth, c, Q, cc, nL, b0, n0, u0, own, kind, D, cA, ea, X⟩ := Γ
  intro H locs ls cells slots e1 e2 hP hS hl
  obtain ⟨hx, hb, hml, hown, hts, hKX, hsz, hki⟩ := C
  exact lv_i2l hx hb hd rfl (k H locs ls cells slots e1 e2 hP hS hl)
theorem s_l2i {x : Int64} (C : aCF Γ) (hd : aDC Γ pc .l2i 1) (k : aSW Γ (pc + 1) L (.int (x.toInt32) :: r) h) : aSW Γ pc L (.long x :: r) h := by
  obtain ⟨p, l, e, R, s, m, args, below, meth, c, Q, cc, nL, b0, n0, u0, own, kind, D, cA, ea, X⟩ := Γ
  intro H locs ls cells slots e1 e2 hP hS hl
  obtain ⟨hx, hb, hml, hown, hts, hKX, hsz, hki⟩ := C
  exact lv_l2i hx hb hd rfl (k H locs ls cells slots e1 e2 hP hS hl)
theorem s_i2b {x : Int32} (C : aCF Γ) (hd : aDC Γ pc .i2b 1) (k : aSW Γ (pc + 1) L (.int (x.toInt8.toInt32) :: r) h) : aSW Γ pc L (.int x :: r) h := by
  obtain ⟨p, l, e, R, s, m, args, below, meth, c, Q, cc, nL, b0, n0, u0, own, kind, D, cA, ea, X⟩ := Γ
  intro H locs ls cells slots e1 e2 hP hS hl
  obtain ⟨hx, hb, hml, hown, hts, hKX, hsz, hki⟩ := C
  exact lv_i2b hx hb hd rfl (k H locs ls cells slots e1 e2 hP hS hl)
theorem s_i2c {x : Int32} (C : aCF Γ) (hd : aDC Γ pc .i2c 1) (k : aSW Γ (pc + 1) L (.int ((x.toUInt32 % 65536).toInt32) :: r) h) : aSW Γ pc L (.int x :: r) h := by
  obtain ⟨p, l, e, R, s, m, args, below, meth, c, Q, cc, nL, b0, n0, u0, own, kind, D, cA, ea, X⟩ := Γ
  intro H locs ls cells slots e1 e2 hP hS hl
  obtain ⟨hx, hb, hml, hown, hts, hKX, hsz, hki⟩ := C
  exact lv_i2c hx hb hd rfl (k H locs ls cells slots e1 e2 hP hS hl)
theorem s_ldcS (hw : aown Γ = 10) (C : aCF Γ) (hd : aDC Γ pc (.ldc 114) 2) (k : aSW Γ (pc + 2) L (.retAddr 2 :: r) h) : aSW Γ pc L r h := by
  obtain ⟨p, l, e, R, s, m, args, below, meth, c, Q, cc, nL, b0, n0, u0, own, kind, D, cA, ea, X⟩ := Γ
  intro H locs ls cells slots e1 e2 hP hS hl
  obtain ⟨hx, hb, hml, hown, hts, hKX, hsz, hki⟩ := C
  have hw : own = 10 := hw
  subst hw
  exact va_ldcS hx hb hown hKX.2.2.2.2.2.2.2.1 hd (k H locs ls cells slots e1 e2 hP hS hl)
theorem s_i2s {x : Int32} (C : aCF Γ) (hd : aDC Γ pc .i2s 1) (k : aSW Γ (pc + 1) L (.int (x.toInt16.toInt32) :: r) h) : aSW Γ pc L (.int x :: r) h := by
  obtain ⟨p, l, e, R, s, m, args, below, meth, c, Q, cc, nL, b0, n0, u0, own, kind, D, cA, ea, X⟩ := Γ
  intro H locs ls cells slots e1 e2 hP hS hl
  obtain ⟨hx, hb, hml, hown, hts, hKX, hsz, hki⟩ := C
  exact lv_i2s hx hb hd rfl (k H locs ls cells slots e1 e2 hP hS hl)
theorem aok1_cat {b0 : Nat} {ea : Nat → Nat} {v : Value} (h : aok1 v = true) : (acv b0 ea v).category = 1 := by
  cases v <;> first | rfl | cases h
theorem s_dup {v : Value} (hv : aok1 v = true) (C : aCF Γ) (hd : aDC Γ pc .dup 1) (k : aSW Γ (pc + 1) L (v :: v :: r) h) : aSW Γ pc L (v :: r) h := by
  obtain ⟨p, l, e, R, s, m, args, below, meth, c, Q, cc, nL, b0, n0, u0, own, kind, D, cA, ea, X⟩ := Γ
  intro H locs ls cells slots e1 e2 hP hS hl
  obtain ⟨hx, hb, hml, hown, hts, hKX, hsz, hki⟩ := C
  exact lv_dup hx hb hd (aok1_cat hv) (k H locs ls cells slots e1 e2 hP hS hl)
theorem s_pop {v : Value} (hv : aok1 v = true) (C : aCF Γ) (hd : aDC Γ pc .pop 1) (k : aSW Γ (pc + 1) L r h) : aSW Γ pc L (v :: r) h := by
  obtain ⟨p, l, e, R, s, m, args, below, meth, c, Q, cc, nL, b0, n0, u0, own, kind, D, cA, ea, X⟩ := Γ
  intro H locs ls cells slots e1 e2 hP hS hl
  obtain ⟨hx, hb, hml, hown, hts, hKX, hsz, hki⟩ := C
  exact lv_pop hx hb hd (aok1_cat hv) (k H locs ls cells slots e1 e2 hP hS hl)
theorem s_pop2 {x : Int64} (C : aCF Γ) (hd : aDC Γ pc .pop2 1) (k : aSW Γ (pc + 1) L r h) : aSW Γ pc L (.long x :: r) h := by
  obtain ⟨p, l, e, R, s, m, args, below, meth, c, Q, cc, nL, b0, n0, u0, own, kind, D, cA, ea, X⟩ := Γ
  intro H locs ls cells slots e1 e2 hP hS hl
  obtain ⟨hx, hb, hml, hown, hts, hKX, hsz, hki⟩ := C
  exact lv_pop2_2 hx hb hd rfl (k H locs ls cells slots e1 e2 hP hS hl)
theorem s_dup2 {v w : Value} (hv : aok1 v = true) (hw : aok1 w = true) (C : aCF Γ) (hd : aDC Γ pc .dup2 1) (k : aSW Γ (pc + 1) L (v :: w :: v :: w :: r) h) : aSW Γ pc L (v :: w :: r) h := by
  obtain ⟨p, l, e, R, s, m, args, below, meth, c, Q, cc, nL, b0, n0, u0, own, kind, D, cA, ea, X⟩ := Γ
  intro H locs ls cells slots e1 e2 hP hS hl
  obtain ⟨hx, hb, hml, hown, hts, hKX, hsz, hki⟩ := C
  exact lv_dup2_11 hx hb hd (aok1_cat hv) (aok1_cat hw) (k H locs ls cells slots e1 e2 hP hS hl)
theorem s_dup_x1 {v w : Value} (hv : aok1 v = true) (hw : aok1 w = true) (C : aCF Γ) (hd : aDC Γ pc .dup_x1 1) (k : aSW Γ (pc + 1) L (v :: w :: v :: r) h) : aSW Γ pc L (v :: w :: r) h := by
  obtain ⟨p, l, e, R, s, m, args, below, meth, c, Q, cc, nL, b0, n0, u0, own, kind, D, cA, ea, X⟩ := Γ
  intro H locs ls cells slots e1 e2 hP hS hl
  obtain ⟨hx, hb, hml, hown, hts, hKX, hsz, hki⟩ := C
  exact lv_dup_x1 hx hb hd (aok1_cat hv) (aok1_cat hw) (k H locs ls cells slots e1 e2 hP hS hl)
theorem s_goto {off : Int} {t : Nat} (ht : (pc : Int) + off = (t : Int)) (C : aCF Γ) (hd : aDC Γ pc (.goto off) 3) (k : aSW Γ t L r h) : aSW Γ pc L r h := by
  obtain ⟨p, l, e, R, s, m, args, below, meth, c, Q, cc, nL, b0, n0, u0, own, kind, D, cA, ea, X⟩ := Γ
  intro H locs ls cells slots e1 e2 hP hS hl
  obtain ⟨hx, hb, hml, hown, hts, hKX, hsz, hki⟩ := C
  exact lv_goto hx hb hd ht (k H locs ls cells slots e1 e2 hP hS hl)
theorem s_if_eq {x : Int32} {off : Int} {t : Nat} (ht : (pc : Int) + off = (t : Int)) (C : aCF Γ) (hd : aDC Γ pc (.ifCond .eq off) 3) (k1 : x = 0 → aSW Γ t L r h) (k2 : ¬ x = 0 → aSW Γ (pc + 3) L r h) : aSW Γ pc L (.int x :: r) h := by
  obtain ⟨p, l, e, R, s, m, args, below, meth, c, Q, cc, nL, b0, n0, u0, own, kind, D, cA, ea, X⟩ := Γ
  intro H locs ls cells slots e1 e2 hP hS hl
  obtain ⟨hx, hb, hml, hown, hts, hKX, hsz, hki⟩ := C
  exact lv_if_eq hx hb hd ht (fun q => k1 q H locs ls cells slots e1 e2 hP hS hl) (fun q => k2 q H locs ls cells slots e1 e2 hP hS hl)
theorem s_if_ne {x : Int32} {off : Int} {t : Nat} (ht : (pc : Int) + off = (t : Int)) (C : aCF Γ) (hd : aDC Γ pc (.ifCond .ne off) 3) (k1 : ¬ x = 0 → aSW Γ t L r h) (k2 : x = 0 → aSW Γ (pc + 3) L r h) : aSW Γ pc L (.int x :: r) h := by
  obtain ⟨p, l, e, R, s, m, args, below, meth, c, Q, cc, nL, b0, n0, u0, own, kind, D, cA, ea, X⟩ := Γ
  intro H locs ls cells slots e1 e2 hP hS hl
  obtain ⟨hx, hb, hml, hown, hts, hKX, hsz, hki⟩ := C
  exact lv_if_ne hx hb hd ht (fun q => k1 q H locs ls cells slots e1 e2 hP hS hl) (fun q => k2 q H locs ls cells slots e1 e2 hP hS hl)
theorem s_if_lt {x : Int32} {off : Int} {t : Nat} (ht : (pc : Int) + off = (t : Int)) (C : aCF Γ) (hd : aDC Γ pc (.ifCond .lt off) 3) (k1 : x < 0 → aSW Γ t L r h) (k2 : ¬ x < 0 → aSW Γ (pc + 3) L r h) : aSW Γ pc L (.int x :: r) h := by
  obtain ⟨p, l, e, R, s, m, args, below, meth, c, Q, cc, nL, b0, n0, u0, own, kind, D, cA, ea, X⟩ := Γ
  intro H locs ls cells slots e1 e2 hP hS hl
  obtain ⟨hx, hb, hml, hown, hts, hKX, hsz, hki⟩ := C
  exact lv_if_lt hx hb hd ht (fun q => k1 q H locs ls cells slots e1 e2 hP hS hl) (fun q => k2 q H locs ls cells slots e1 e2 hP hS hl)
theorem s_if_ge {x : Int32} {off : Int} {t : Nat} (ht : (pc : Int) + off = (t : Int)) (C : aCF Γ) (hd : aDC Γ pc (.ifCond .ge off) 3) (k1 : 0 ≤ x → aSW Γ t L r h) (k2 : ¬ 0 ≤ x → aSW Γ (pc + 3) L r h) : aSW Γ pc L (.int x :: r) h := by
  obtain ⟨p, l, e, R, s, m, args, below, meth, c, Q, cc, nL, b0, n0, u0, own, kind, D, cA, ea, X⟩ := Γ
  intro H locs ls cells slots e1 e2 hP hS hl
  obtain ⟨hx, hb, hml, hown, hts, hKX, hsz, hki⟩ := C
  exact lv_if_ge hx hb hd ht (fun q => k1 q H locs ls cells slots e1 e2 hP hS hl) (fun q => k2 q H locs ls cells slots e1 e2 hP hS hl)
theorem s_if_gt {x : Int32} {off : Int} {t : Nat} (ht : (pc : Int) + off = (t : Int)) (C : aCF Γ) (hd : aDC Γ pc (.ifCond .gt off) 3) (k1 : 0 < x → aSW Γ t L r h) (k2 : ¬ 0 < x → aSW Γ (pc + 3) L r h) : aSW Γ pc L (.int x :: r) h := by
  obtain ⟨p, l, e, R, s, m, args, below, meth, c, Q, cc, nL, b0, n0, u0, own, kind, D, cA, ea, X⟩ := Γ
  intro H locs ls cells slots e1 e2 hP hS hl
  obtain ⟨hx, hb, hml, hown, hts, hKX, hsz, hki⟩ := C
  exact lv_if_gt hx hb hd ht (fun q => k1 q H locs ls cells slots e1 e2 hP hS hl) (fun q => k2 q H locs ls cells slots e1 e2 hP hS hl)
theorem s_if_le {x : Int32} {off : Int} {t : Nat} (ht : (pc : Int) + off = (t : Int)) (C : aCF Γ) (hd : aDC Γ pc (.ifCond .le off) 3) (k1 : x ≤ 0 → aSW Γ t L r h) (k2 : ¬ x ≤ 0 → aSW Γ (pc + 3) L r h) : aSW Γ pc L (.int x :: r) h := by
  obtain ⟨p, l, e, R, s, m, args, below, meth, c, Q, cc, nL, b0, n0, u0, own, kind, D, cA, ea, X⟩ := Γ
  intro H locs ls cells slots e1 e2 hP hS hl
  obtain ⟨hx, hb, hml, hown, hts, hKX, hsz, hki⟩ := C
  exact lv_if_le hx hb hd ht (fun q => k1 q H locs ls cells slots e1 e2 hP hS hl) (fun q => k2 q H locs ls cells slots e1 e2 hP hS hl)
theorem s_icmp_eq {x y : Int32} {off : Int} {t : Nat} (ht : (pc : Int) + off = (t : Int)) (C : aCF Γ) (hd : aDC Γ pc (.if_icmp .eq off) 3) (k1 : x = y → aSW Γ t L r h) (k2 : ¬ x = y → aSW Γ (pc + 3) L r h) : aSW Γ pc L (.int y :: .int x :: r) h := by
  obtain ⟨p, l, e, R, s, m, args, below, meth, c, Q, cc, nL, b0, n0, u0, own, kind, D, cA, ea, X⟩ := Γ
  intro H locs ls cells slots e1 e2 hP hS hl
  obtain ⟨hx, hb, hml, hown, hts, hKX, hsz, hki⟩ := C
  exact lv_icmp_eq hx hb hd ht (fun q => k1 q H locs ls cells slots e1 e2 hP hS hl) (fun q => k2 q H locs ls cells slots e1 e2 hP hS hl)
theorem s_icmp_ne {x y : Int32} {off : Int} {t : Nat} (ht : (pc : Int) + off = (t : Int)) (C : aCF Γ) (hd : aDC Γ pc (.if_icmp .ne off) 3) (k1 : ¬ x = y → aSW Γ t L r h) (k2 : x = y → aSW Γ (pc + 3) L r h) : aSW Γ pc L (.int y :: .int x :: r) h := by
  obtain ⟨p, l, e, R, s, m, args, below, meth, c, Q, cc, nL, b0, n0, u0, own, kind, D, cA, ea, X⟩ := Γ
  intro H locs ls cells slots e1 e2 hP hS hl
  obtain ⟨hx, hb, hml, hown, hts, hKX, hsz, hki⟩ := C
  exact lv_icmp_ne hx hb hd ht (fun q => k1 q H locs ls cells slots e1 e2 hP hS hl) (fun q => k2 q H locs ls cells slots e1 e2 hP hS hl)
theorem s_icmp_lt {x y : Int32} {off : Int} {t : Nat} (ht : (pc : Int) + off = (t : Int)) (C : aCF Γ) (hd : aDC Γ pc (.if_icmp .lt off) 3) (k1 : x < y → aSW Γ t L r h) (k2 : ¬ x < y → aSW Γ (pc + 3) L r h) : aSW Γ pc L (.int y :: .int x :: r) h := by
  obtain ⟨p, l, e, R, s, m, args, below, meth, c, Q, cc, nL, b0, n0, u0, own, kind, D, cA, ea, X⟩ := Γ
  intro H locs ls cells slots e1 e2 hP hS hl
  obtain ⟨hx, hb, hml, hown, hts, hKX, hsz, hki⟩ := C
  exact lv_icmp_lt hx hb hd ht (fun q => k1 q H locs ls cells slots e1 e2 hP hS hl) (fun q => k2 q H locs ls cells slots e1 e2 hP hS hl)
theorem s_icmp_ge {x y : Int32} {off : Int} {t : Nat} (ht : (pc : Int) + off = (t : Int)) (C : aCF Γ) (hd : aDC Γ pc (.if_icmp .ge off) 3) (k1 : y ≤ x → aSW Γ t L r h) (k2 : ¬ y ≤ x → aSW Γ (pc + 3) L r h) : aSW Γ pc L (.int y :: .int x :: r) h := by
  obtain ⟨p, l, e, R, s, m, args, below, meth, c, Q, cc, nL, b0, n0, u0, own, kind, D, cA, ea, X⟩ := Γ
  intro H locs ls cells slots e1 e2 hP hS hl
  obtain ⟨hx, hb, hml, hown, hts, hKX, hsz, hki⟩ := C
  exact lv_icmp_ge hx hb hd ht (fun q => k1 q H locs ls cells slots e1 e2 hP hS hl) (fun q => k2 q H locs ls cells slots e1 e2 hP hS hl)
theorem s_icmp_gt {x y : Int32} {off : Int} {t : Nat} (ht : (pc : Int) + off = (t : Int)) (C : aCF Γ) (hd : aDC Γ pc (.if_icmp .gt off) 3) (k1 : y < x → aSW Γ t L r h) (k2 : ¬ y < x → aSW Γ (pc + 3) L r h) : aSW Γ pc L (.int y :: .int x :: r) h := by
  obtain ⟨p, l, e, R, s, m, args, below, meth, c, Q, cc, nL, b0, n0, u0, own, kind, D, cA, ea, X⟩ := Γ
  intro H locs ls cells slots e1 e2 hP hS hl
  obtain ⟨hx, hb, hml, hown, hts, hKX, hsz, hki⟩ := C
  exact lv_icmp_gt hx hb hd ht (fun q => k1 q H locs ls cells slots e1 e2 hP hS hl) (fun q => k2 q H locs ls cells slots e1 e2 hP hS hl)
theorem s_icmp_le {x y : Int32} {off : Int} {t : Nat} (ht : (pc : Int) + off = (t : Int)) (C : aCF Γ) (hd : aDC Γ pc (.if_icmp .le off) 3) (k1 : x ≤ y → aSW Γ t L r h) (k2 : ¬ x ≤ y → aSW Γ (pc + 3) L r h) : aSW Γ pc L (.int y :: .int x :: r) h := by
  obtain ⟨p, l, e, R, s, m, args, below, meth, c, Q, cc, nL, b0, n0, u0, own, kind, D, cA, ea, X⟩ := Γ
  intro H locs ls cells slots e1 e2 hP hS hl
  obtain ⟨hx, hb, hml, hown, hts, hKX, hsz, hki⟩ := C
  exact lv_icmp_le hx hb hd ht (fun q => k1 q H locs ls cells slots e1 e2 hP hS hl) (fun q => k2 q H locs ls cells slots e1 e2 hP hS hl)
theorem s_ifnull {x : Nat} {off : Int} (C : aCF Γ) (hd : aDC Γ pc (.ifnull off) 3) (k : aSW Γ (pc + 3) L r h) : aSW Γ pc L (.ref x :: r) h := by
  obtain ⟨p, l, e, R, s, m, args, below, meth, c, Q, cc, nL, b0, n0, u0, own, kind, D, cA, ea, X⟩ := Γ
  intro H locs ls cells slots e1 e2 hP hS hl
  obtain ⟨hx, hb, hml, hown, hts, hKX, hsz, hki⟩ := C
  exact lv_ifnull hx hb hd (k H locs ls cells slots e1 e2 hP hS hl)
theorem s_ifnullN {off : Int} {t : Nat} (ht : (pc : Int) + off = (t : Int)) (C : aCF Γ) (hd : aDC Γ pc (.ifnull off) 3) (k : aSW Γ t L r h) : aSW Γ pc L (.null :: r) h := by
  obtain ⟨p, l, e, R, s, m, args, below, meth, c, Q, cc, nL, b0, n0, u0, own, kind, D, cA, ea, X⟩ := Γ
  intro H locs ls cells slots e1 e2 hP hS hl
  obtain ⟨hx, hb, hml, hown, hts, hKX, hsz, hki⟩ := C
  exact lv_ifnullN hx hb hd ht (k H locs ls cells slots e1 e2 hP hS hl)
theorem s_ifnonnull {x : Nat} {off : Int} {t : Nat} (ht : (pc : Int) + off = (t : Int)) (C : aCF Γ) (hd : aDC Γ pc (.ifnonnull off) 3) (k : aSW Γ t L r h) : aSW Γ pc L (.ref x :: r) h := by
  obtain ⟨p, l, e, R, s, m, args, below, meth, c, Q, cc, nL, b0, n0, u0, own, kind, D, cA, ea, X⟩ := Γ
  intro H locs ls cells slots e1 e2 hP hS hl
  obtain ⟨hx, hb, hml, hown, hts, hKX, hsz, hki⟩ := C
  exact lv_ifnonnull hx hb hd ht (k H locs ls cells slots e1 e2 hP hS hl)
theorem s_ifnonnullN {off : Int} (C : aCF Γ) (hd : aDC Γ pc (.ifnonnull off) 3) (k : aSW Γ (pc + 3) L r h) : aSW Γ pc L (.null :: r) h := by
  obtain ⟨p, l, e, R, s, m, args, below, meth, c, Q, cc, nL, b0, n0, u0, own, kind, D, cA, ea, X⟩ := Γ
  intro H locs ls cells slots e1 e2 hP hS hl
  obtain ⟨hx, hb, hml, hown, hts, hKX, hsz, hki⟩ := C
  exact lv_ifnonnullN hx hb hd (k H locs ls cells slots e1 e2 hP hS hl)
theorem s_tableOut {x : Int32} {d lo hi : Int} {offs : Array Int} {n t : Nat} (hq : x.toInt < lo ∨ hi < x.toInt) (ht : (pc : Int) + d = (t : Int)) (C : aCF Γ) (hd : aDC Γ pc (.tableswitch d lo hi offs) n) (k : aSW Γ t L r h) : aSW Γ pc L (.int x :: r) h := by
  obtain ⟨p, l, e, R, s, m, args, below, meth, c, Q, cc, nL, b0, n0, u0, own, kind, D, cA, ea, X⟩ := Γ
  intro H locs ls cells slots e1 e2 hP hS hl
  obtain ⟨hx, hb, hml, hown, hts, hKX, hsz, hki⟩ := C
  exact lv_tableOut hx hb hd hq ht (k H locs ls cells slots e1 e2 hP hS hl)
theorem s_tableIn {x : Int32} {d lo hi off : Int} {offs : Array Int} {n t : Nat} (q1 : ¬ x.toInt < lo) (q2 : ¬ hi < x.toInt) (ho : offs[(x.toInt - lo).toNat]? = some off) (ht : (pc : Int) + off = (t : Int)) (C : aCF Γ) (hd : aDC Γ pc (.tableswitch d lo hi offs) n) (k : aSW Γ t L r h) : aSW Γ pc L (.int x :: r) h := by
  obtain ⟨p, l, e, R, s, m, args, below, meth, c, Q, cc, nL, b0, n0, u0, own, kind, D, cA, ea, X⟩ := Γ
  intro H locs ls cells slots e1 e2 hP hS hl
  obtain ⟨hx, hb, hml, hown, hts, hKX, hsz, hki⟩ := C
  exact lv_tableIn hx hb hd q1 q2 ho ht (k H locs ls cells slots e1 e2 hP hS hl)
theorem s_lookup {x : Int32} {d off : Int} {ps : Array (Int × Int)} {n t : Nat} (hp : (ps.toList.zip (ps.toList.drop 1)).all (fun (a, next) => a.1 < next.1) = true) (ho : Op.lookupswitch.offset ps.toList d x.toInt = off) (ht : (pc : Int) + off = (t : Int)) (C : aCF Γ) (hd : aDC Γ pc (.lookupswitch d ps) n) (k : aSW Γ t L r h) : aSW Γ pc L (.int x :: r) h := by
  obtain ⟨p, l, e, R, s, m, args, below, meth, c, Q, cc, nL, b0, n0, u0, own, kind, D, cA, ea, X⟩ := Γ
  intro H locs ls cells slots e1 e2 hP hS hl
  obtain ⟨hx, hb, hml, hown, hts, hKX, hsz, hki⟩ := C
  exact lv_lookup hx hb hd hp ho ht (k H locs ls cells slots e1 e2 hP hS hl)
end AZ

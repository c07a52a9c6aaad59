-- ===== String.indexOf(int) on the one constant: the library's free theorem, on our facts =====
section STR
def aSt (a d : Nat) (z : Int32) (arr : Cell) (U : State) : Prop :=
  (Cond.exactly (.arg 0) "java/lang/String").before #[.ref a] U = true ∧ (Term.field (.arg 0) "java/lang/String" "coder" "B").eval #[.ref a] U none [] U = some (.int 0) ∧
  (Term.field (.arg 0) "java/lang/String" "value" "[B").eval #[.ref a] U none [] U = some (.ref d) ∧ U.heap[d]? = some arr ∧ U.isArrayOf arr .byte ∧ arr.vm ≠ .unknown ∧ arr.slots.size < 2 ^ 31 ∧
  (∀ i, i < arr.slots.size → arr.slots[i]? = some (.int (Jvm.Lib.StringLatin1.equals.intAt arr i))) ∧ Jvm.Lib.Cold.StaticIs U "java/lang/String" "COMPACT_STRINGS" "Z" (.int z) ∧ z ≠ 0
theorem ix_shelf {a d : Nat} {z ch fromI : Int32} {arr : Cell} {s : State} {aa : Array Value} (hK : aSt a d z arr s) (hcw : (Jvm.Free.Str.Ix2.calleeW.foldr Cond.and .tt).before aa s = true) :
    Jvm.Free.StrIndexOf.S2.P a d ch fromI z arr #[.ref a, .int ch, .int fromI] s := by
  have V := Jvm.Free.Str.Sub.words_of _ hcw
  have w1 : ∀ (c : Cond), c ∈ Jvm.Free.Str.Ix2.calleeW → c.tabsOnly = true → ∀ a', c.before a' s = true := fun c hc ht a' => Jvm.Free.Str.Sub.anyArgs c ht (V c hc)
  obtain ⟨k1, k2, k3, k4, k5, k6, k7, k8, k9, k10⟩ := hK
  have hpreI : Jvm.Lib.Cold.isLatin1.spec.pre.before #[.ref a] s = true := by
    simp only [Jvm.Lib.Cold.isLatin1.spec, Cond.before_and, Bool.and_eq_true]
    exact ⟨w1 _ (by simp [Jvm.Free.Str.Ix2.calleeW]) rfl _, rfl, w1 _ (by simp [Jvm.Free.Str.Ix2.calleeW]) rfl _, w1 _ (by simp [Jvm.Free.Str.Ix2.calleeW]) rfl _⟩
  have hpreCo : Jvm.Lib.Cold.coder.spec.pre.before #[.ref a] s = true := by
    simp only [Jvm.Lib.Cold.coder.spec, Cond.before_and, Bool.and_eq_true]
    exact ⟨w1 _ (by simp [Jvm.Free.Str.Ix2.calleeW]) rfl _, rfl, w1 _ (by simp [Jvm.Free.Str.Ix2.calleeW]) rfl _, w1 _ (by simp [Jvm.Free.Str.Ix2.calleeW]) rfl _⟩
  have hpreL : Jvm.Lib.Cold.length.spec.pre.before #[.ref a] s = true := by
    simp only [Jvm.Lib.Cold.length.spec, Cond.before_and, Bool.and_eq_true]
    exact ⟨w1 _ (by simp [Jvm.Free.Str.Ix2.calleeW]) rfl _, rfl, k1, w1 _ (by simp [Jvm.Free.Str.Ix2.calleeW]) rfl _, w1 _ (by simp [Jvm.Free.Str.Ix2.calleeW]) rfl _, w1 _ (by simp [Jvm.Free.Str.Ix2.calleeW]) rfl _, w1 _ (by simp [Jvm.Free.Str.Ix2.calleeW]) rfl _, w1 _ (by simp [Jvm.Free.Str.Ix2.calleeW]) rfl _, w1 _ (by simp [Jvm.Free.Str.Ix2.calleeW]) rfl _⟩
  have k3' : (Term.field (.arg 0) "java/lang/String" "value" "[B").eval #[.ref a, .int ch, .int fromI] s none [] s = some (.ref d) := by
    simpa [Term.eval] using k3
  exact ⟨rfl, k3', hpreI, ⟨rfl, k9, k10, k2⟩, hpreL, ⟨rfl, k3, k4, k5, hpreCo, ⟨rfl, k9, k10, k2⟩⟩, k6, k7, k8⟩
theorem ix_gets (l : Launch) (a d : Nat) (z ch : Int32) (arr : Cell) :
    MetFree l Jvm.Free.StrIndexOf.indexOf1N Jvm.Free.Str.Ix1.spec (fun args s => args = #[.ref a, .int ch] ∧ aSt a d z arr s) (fun _ _ _ _ _ => True) (PureRet (some (.int (Jvm.Free.SL1IndexOf.Idx.answer arr ch 0 arr.slots.size.toInt32)))) := by
  intro p e ha hcas hclk s m args below hf happ hP _
  obtain ⟨rfl, hK⟩ := hP
  obtain ⟨q1, q2, q3, q4, q5, q6, q7, hpre⟩ := (Spec.appliesLoose_iff (S := Jvm.Free.Str.Ix1.spec) hf).mp happ
  simp only [Jvm.Free.Str.Ix1.spec, Cond.before_and, Bool.and_eq_true] at hpre
  have happ' : Jvm.Free.StrIndexOf.S1.spec.appliesLoose Jvm.Free.StrIndexOf.indexOf1N e.platform s = true := (Spec.appliesLoose_iff (S := Jvm.Free.StrIndexOf.S1.spec) hf).mpr ⟨q1, q2, q3, q4, q5, q6, q7, hpre.1⟩
  have hD : (Jvm.Free.Str.dropHeap Jvm.Free.Str.Ix2.spec.pre).before #[.ref a, .int ch, .int 0] s = true := Jvm.Free.Str.Sub.anyArgs _ Jvm.Free.Str.Ix1.drop_tabsOnly hpre.2
  have h2 : Jvm.Free.Str.Ix2.spec.pre.before #[.ref a, .int ch, .int 0] s = true := by
    refine Jvm.Free.Str.before_of_drop _ hD ?_
    simp only [Jvm.Free.Str.Ix2.spec, Jvm.Free.StrIndexOf.S2.spec, Jvm.Free.SL1IndexOf.Idx.tab, Jvm.Free.SL1IndexOf.Can.tab, Jvm.Free.SL1IndexOf.Chr.tab, Jvm.Free.Str.Ix2.calleeW, List.foldr, Jvm.Free.Str.Leaves, and_true, true_and]
    exact ⟨rfl, Jvm.Free.Str.Sub.ex3 hK.1⟩
  simp only [Jvm.Free.Str.Ix2.spec, Cond.before_and, Bool.and_eq_true] at h2
  obtain ⟨n, o, g1, g2, hend, hpe, ho⟩ := Jvm.Free.StrIndexOf.S1.met l a d ch z arr p e ha hcas hclk s m _ below hf happ' ⟨rfl, h2.1, ix_shelf hK h2.2⟩ trivial
  exact ⟨n, o, g1, g2, hend, Jvm.Free.Str.Ix2.pureRet_of hpe ho⟩
theorem ix_pays {l : Launch} {R : Room} {p : Program} {e : Env} {below : List Frame} {s : State} {sargs : Array Value} {len w : Nat} (a d : Nat) (z ch : Int32) (arr : Cell)
    (htab : (Jvm.Free.Str.dropHeap Jvm.Free.Str.Ix1.spec.pre).before sargs s = true) (hf : 4 + 1 ≤ R.frames) (hl : w + (2 + 11) + 160 ≤ R.locals) :
    Back l R p e below s sargs Jvm.Free.StrIndexOf.indexOf1N len w (fun A a' => A.cells ≤ R.cells ∧ A.slots ≤ R.slots ∧ a' = #[.ref a, .int ch] ∧ aSt a d z arr A.U)
      (fun A _ v B => v = some (.int (Jvm.Free.SL1IndexOf.Idx.answer arr ch 0 arr.slots.size.toInt32)) ∧ B.U.heap = A.U.heap ∧ B.locs = A.locs ∧ B.cells = A.cells ∧ B.slots = A.slots) := by
  refine Back.of_free (S := Jvm.Free.Str.Ix1.spec) (P := fun args s => args = #[.ref a, .int ch] ∧ aSt a d z arr s) (K := fun _ _ _ _ _ => True) (Q := PureRet (some (.int (Jvm.Free.SL1IndexOf.Idx.answer arr ch 0 arr.slots.size.toInt32)))) (bytes := Jvm.Free.StrIndexOf.indexOf1B) (maxL := 2) (ret := some .int)
    (E := fun _ first o t L k n => L = [] ∧ k = 0 ∧ n = 0 ∧ o = .returned (some (.int (Jvm.Free.SL1IndexOf.Idx.answer arr ch 0 arr.slots.size.toInt32))) ∧ t.heap = first.heap)
    (ix_gets l a d z ch arr) hf hl ?_ ?_ ?_ ?_ ?_
  · intro m' meth' c' A a' X ⟨h1, h2, hP⟩
    obtain rfl := hP.1
    have hD : (Jvm.Free.Str.dropHeap Jvm.Free.Str.Ix1.spec.pre).before #[.ref a, .int ch] A.U = true := Jvm.Free.Str.rides_of_B _ Jvm.Free.Str.Ix1.tab_rides X.warmed htab
    have hpre : Jvm.Free.Str.Ix1.spec.pre.before #[.ref a, .int ch] A.U = true := by
      refine Jvm.Free.Str.before_of_drop _ hD ?_
      simp only [Jvm.Free.Str.Ix1.spec, Jvm.Free.StrIndexOf.S1.spec, Jvm.Free.Str.Ix2.spec, Jvm.Free.StrIndexOf.S2.spec, Jvm.Free.SL1IndexOf.Idx.tab, Jvm.Free.SL1IndexOf.Can.tab, Jvm.Free.SL1IndexOf.Chr.tab, Jvm.Free.Str.Ix2.calleeW, List.foldr, Jvm.Free.Str.dropHeap, Jvm.Free.Str.Leaves, and_true, true_and]
      exact ⟨rfl, Jvm.Free.Str.Ix1.ex2 hP.2.1⟩
    have hpre' := hpre
    simp only [Jvm.Free.Str.Ix1.spec, Jvm.Free.StrIndexOf.S1.spec, Cond.before_and, Bool.and_eq_true] at hpre'
    exact ⟨hpre, hpre'.1.1, hpre'.1.2.2.2.2.2.2.2, h1, h2⟩
  · intro m' meth' c' A a' g' mk X ⟨_, _, hP⟩
    exact hP
  · intro _ _ _ _ _ _ _ _ _; trivial
  · intro a' first o t ⟨ho, hh, hF⟩
    exact ⟨[], 0, 0, hF, rfl, rfl, rfl, ho, hh⟩
  · intro m' meth' c' A a' g' mk v t L k n X _ _ hF ⟨hL, hk, hn, ho, hh⟩
    subst hL hk hn
    exact ⟨Outcome.returned.inj ho, hh, by simp [Pt.locs], rfl, rfl⟩
theorem fidx_congr {f g : Nat → Int32} {t : Int32} : ∀ (n lo : Nat), (∀ k, lo ≤ k → k < lo + n → f k = g k) → Jvm.Free.SL1IndexOf.Chr.firstIdx f t lo n = Jvm.Free.SL1IndexOf.Chr.firstIdx g t lo n
  | 0, _, _ => rfl
  | n + 1, lo, h => by
    show (if f lo = t then Int32.ofNat lo else Jvm.Free.SL1IndexOf.Chr.firstIdx f t (lo + 1) n) = (if g lo = t then Int32.ofNat lo else Jvm.Free.SL1IndexOf.Chr.firstIdx g t (lo + 1) n)
    rw [h lo (Nat.le_refl _) (by omega), fidx_congr n (lo + 1) (fun k h1 h2 => h k (by omega) (by omega))]
theorem zIx_lat : ∀ k : Fin 256, Jvm.Free.SL1IndexOf.Chr.firstIdx (fun j => zNS.getD j 0) (Int32.ofNat k.val).toInt8.toInt32 0 13 = zIx (Int32.ofNat k.val) := by decide +kernel
theorem zIx_out {c : Int32} (h : ¬ (0 ≤ c ∧ c ≤ 255)) : zIx c = -1 := by
  have key : ∀ x ∈ zNS, x ≠ c := by
    intro x hx e
    subst e
    have hl : ∀ y ∈ zNS, 0 ≤ y ∧ y ≤ 255 := by decide
    exact h (hl _ hx)
  have go : ∀ (l : List Int32) (n : Nat), (∀ x ∈ l, x ≠ c) → zIxF c n l = -1 := by
    intro l
    induction l with
    | nil => intro n _; rfl
    | cons x r ih =>
      intro n hx
      unfold zIxF
      rw [if_neg (hx x List.mem_cons_self)]
      exact ih _ fun y hy => hx y (List.mem_cons_of_mem _ hy)
  exact go zNS 0 key
theorem ix_ans {arr : Cell} {c : Int32} (h13 : arr.slots.size = 13) (hel : ∀ j, j < 13 → Jvm.Lib.StringLatin1.equals.intAt arr j = zNS.getD j 0) : Jvm.Free.SL1IndexOf.Idx.answer arr c 0 arr.slots.size.toInt32 = zIx c := by
  have hh : Jvm.Free.SL1IndexOf.Idx.hi arr arr.slots.size.toInt32 = 13 := by
    unfold Jvm.Free.SL1IndexOf.Idx.hi
    rw [h13]
    decide
  unfold Jvm.Free.SL1IndexOf.Idx.answer
  rw [hh]
  by_cases hc : 0 ≤ c ∧ c ≤ 255
  · have hcan : Jvm.Free.SL1IndexOf.Can.can c = 1 := by unfold Jvm.Free.SL1IndexOf.Can.can; rw [if_pos hc]
    rw [hcan, if_neg (by decide), if_pos (by decide)]
    show Jvm.Free.SL1IndexOf.Chr.firstIdx (Jvm.Lib.StringLatin1.equals.intAt arr) c.toInt8.toInt32 0 13 = _
    rw [fidx_congr (g := fun j => zNS.getD j 0) 13 0 (fun k _ hk => hel k (by omega))]
    have h0 : 0 ≤ c.toInt := Int32.le_iff_toInt_le.mp hc.1
    have h1 : c.toInt ≤ 255 := Int32.le_iff_toInt_le.mp hc.2
    have e : Int32.ofNat c.toInt.toNat = c := by
      apply Int32.toInt_inj.mp
      rw [Int32.toInt_ofNat_of_lt (by omega)]
      omega
    have := zIx_lat ⟨c.toInt.toNat, by omega⟩
    rw [e] at this
    exact this
  · have hcan : Jvm.Free.SL1IndexOf.Can.can c = 0 := by unfold Jvm.Free.SL1IndexOf.Can.can; rw [if_neg hc]
    rw [hcan, if_pos rfl, zIx_out hc]
def zany3 (w : Cond) : Bool := lw_tbl.any (fun v => decide (v = w)) && goodWord w
theorem zany3_in {w : Cond} (h : zany3 w = true) : w ∈ zW := by
  obtain ⟨h1, h2⟩ := (Bool.and_eq_true _ _).mp h
  obtain ⟨v, m, g⟩ := List.any_eq_true.mp h1
  simp only [decide_eq_true_eq] at g
  subst g
  exact zW_of m h2
theorem decl_of {y : MethodName} {bytes : ByteArray} {maxL : Nat} {ret : Option FieldType} {A : Array Value} {s : State} (h1 : (Cond.code y bytes maxL ret).before A s = true) (h2 : (Cond.instanceMethod y).before A s = true) : (Cond.declares y).before A s = true := by
  obtain ⟨mk, meth, e1, e2, e3, e4⟩ := Cond.instanceMethod_spec h2
  obtain ⟨methX, cX, hmX, -, -, -, -, -, -, hsX⟩ := Cond.code_spec e1 h1
  cases e2.symm.trans hmX
  simp [Cond.before, Cond.holds, Cond.value, e1, e2, e3, hsX]
theorem ixc_1 : Cond.code Jvm.Free.StrIndexOf.indexOf1N Jvm.Free.StrIndexOf.indexOf1B 2 (some .int) ∈ zW := zW_of (zsub_5 (List.mem_of_getElem? (show tables_1_5[15]? = some (.code Jvm.Free.StrIndexOf.indexOf1N Jvm.Free.StrIndexOf.indexOf1B 2 (some .int)) from rfl))) rfl
theorem ixc_2 : Cond.code Jvm.Free.StrIndexOf.indexOf2N Jvm.Free.StrIndexOf.indexOf2B 3 (some .int) ∈ zW := zW_of (zsub_5 (List.mem_of_getElem? (show tables_1_5[19]? = some (.code Jvm.Free.StrIndexOf.indexOf2N Jvm.Free.StrIndexOf.indexOf2B 3 (some .int)) from rfl))) rfl
theorem ixc_il : Cond.code Jvm.Lib.Cold.isLatin1.x Jvm.Lib.String.isLatin1.code 1 (some .boolean) ∈ zW := zW_of (zsub_5 (List.mem_of_getElem? (show tables_1_5[23]? = some (.code Jvm.Lib.Cold.isLatin1.x Jvm.Lib.String.isLatin1.code 1 (some .boolean)) from rfl))) rfl
theorem ixc_ln : Cond.code Jvm.Lib.Cold.length.x Jvm.Lib.String.length.code 1 (some .int) ∈ zW := zW_of (zsub_5 (List.mem_of_getElem? (show tables_1_5[29]? = some (.code Jvm.Lib.Cold.length.x Jvm.Lib.String.length.code 1 (some .int)) from rfl))) rfl
theorem ixc_co : Cond.code Jvm.Lib.Cold.coder.x Jvm.Lib.String.coder.code 1 (some .byte) ∈ zW := zW_of (zsub_5 (List.mem_of_getElem? (show tables_1_5[33]? = some (.code Jvm.Lib.Cold.coder.x Jvm.Lib.String.coder.code 1 (some .byte)) from rfl))) rfl
theorem ixc_x : Cond.code Jvm.Free.SL1IndexOf.indexOfN Jvm.Free.SL1IndexOf.indexOfB 4 (some .int) ∈ zW := zW_of (zsub_5 (List.mem_of_getElem? (show tables_1_5[36]? = some (.code Jvm.Free.SL1IndexOf.indexOfN Jvm.Free.SL1IndexOf.indexOfB 4 (some .int)) from rfl))) rfl
theorem ixc_ce : Cond.code Jvm.Free.SL1IndexOf.canEncodeN Jvm.Free.SL1IndexOf.canEncodeB 1 (some .boolean) ∈ zW := zW_of (zsub_5 (List.mem_of_getElem? (show tables_1_5[39]? = some (.code Jvm.Free.SL1IndexOf.canEncodeN Jvm.Free.SL1IndexOf.canEncodeB 1 (some .boolean)) from rfl))) rfl
theorem ixc_ch : Cond.code Jvm.Free.SL1IndexOf.indexOfCharN Jvm.Free.SL1IndexOf.indexOfCharB 6 (some .int) ∈ zW := zW_of (zsub_5 (List.mem_of_getElem? (show tables_1_5[44]? = some (.code Jvm.Free.SL1IndexOf.indexOfCharN Jvm.Free.SL1IndexOf.indexOfCharB 6 (some .int)) from rfl))) rfl
theorem ixd_1 {A : Array Value} {s : State} (hts : ∀ w ∈ zW, w.before A s = true) : (Cond.declares Jvm.Free.StrIndexOf.indexOf1N).before A s = true := decl_of (hts _ ixc_1) (hts _ (zTab_mem (p := 1092) (w := .instanceMethod Jvm.Free.StrIndexOf.indexOf1N) (by decide +kernel)))
theorem ixd_2 {A : Array Value} {s : State} (hts : ∀ w ∈ zW, w.before A s = true) : (Cond.declares Jvm.Free.StrIndexOf.indexOf2N).before A s = true := decl_of (hts _ ixc_2) (hts _ (zTab_mem (p := 1096) (w := .instanceMethod Jvm.Free.StrIndexOf.indexOf2N) (by decide +kernel)))
theorem ixd_il {A : Array Value} {s : State} (hts : ∀ w ∈ zW, w.before A s = true) : (Cond.declares Jvm.Lib.Cold.isLatin1.x).before A s = true := decl_of (hts _ ixc_il) (hts _ (zTab_mem (p := 1100) (w := .instanceMethod Jvm.Lib.Cold.isLatin1.x) (by decide +kernel)))
theorem ixd_ln {A : Array Value} {s : State} (hts : ∀ w ∈ zW, w.before A s = true) : (Cond.declares Jvm.Lib.Cold.length.x).before A s = true := decl_of (hts _ ixc_ln) (hts _ (zTab_mem (p := 1106) (w := .instanceMethod Jvm.Lib.Cold.length.x) (by decide +kernel)))
theorem ixd_co {A : Array Value} {s : State} (hts : ∀ w ∈ zW, w.before A s = true) : (Cond.declares Jvm.Lib.Cold.coder.x).before A s = true := decl_of (hts _ ixc_co) (hts _ (zTab_mem (p := 1110) (w := .instanceMethod Jvm.Lib.Cold.coder.x) (by decide +kernel)))
theorem ix_tab {A : Array Value} {s : State} (hts : ∀ w ∈ zW, w.before A s = true) : (Jvm.Free.Str.dropHeap Jvm.Free.Str.Ix1.spec.pre).before A s = true := by
  have ht : (Cond.tt).before A s = true := rfl
  simp only [Jvm.Free.Str.Ix1.spec, Jvm.Free.StrIndexOf.S1.spec, Jvm.Free.Str.Ix2.spec, Jvm.Free.StrIndexOf.S2.spec, Jvm.Free.SL1IndexOf.Idx.tab, Jvm.Free.SL1IndexOf.Can.tab, Jvm.Free.SL1IndexOf.Chr.tab, Jvm.Free.Str.Ix2.calleeW, List.foldr, Jvm.Free.Str.dropHeap, Cond.before_and, Bool.and_eq_true]
  repeat' apply And.intro
  · exact hts _ ixc_1
  · exact ht
  · exact ht
  · exact hts _ (zTab_mem (p := 1095) (by decide +kernel))
  · exact ixd_2 hts
  · exact hts _ (zTab_mem (p := 1097) (by decide +kernel))
  · exact hts _ (zTab_mem (p := 1096) (by decide +kernel))
  · exact hts _ (zTab_mem (p := 137) (by decide +kernel))
  · exact hts _ ixc_2
  · exact ht
  · exact ht
  · exact hts _ (zTab_mem (p := 1099) (by decide +kernel))
  · exact ixd_il hts
  · exact hts _ (zTab_mem (p := 1101) (by decide +kernel))
  · exact hts _ (zTab_mem (p := 1100) (by decide +kernel))
  · exact hts _ (zTab_mem (p := 2431) (by decide +kernel))
  · exact hts _ (zTab_mem (p := 1105) (by decide +kernel))
  · exact ixd_ln hts
  · exact hts _ (zTab_mem (p := 1107) (by decide +kernel))
  · exact hts _ (zTab_mem (p := 1106) (by decide +kernel))
  · exact hts _ (zTab_mem (p := 1113) (by decide +kernel))
  · exact hts _ (zTab_mem (p := 1114) (by decide +kernel))
  · exact hts _ ixc_x
  · exact hts _ (zTab_mem (p := 1116) (by decide +kernel))
  · exact hts _ (zTab_mem (p := 1117) (by decide +kernel))
  · exact hts _ ixc_ce
  · exact hts _ (zTab_mem (p := 1119) (by decide +kernel))
  · exact hts _ zms_1010
  · exact hts _ zmc_1010
  · exact hts _ (zTab_mem (p := 1120) (by decide +kernel))
  · exact hts _ zms_1011
  · exact hts _ zmc_1011
  · exact hts _ zmi
  · exact hts _ (zTab_mem (p := 1121) (by decide +kernel))
  · exact hts _ (zTab_mem (p := 1122) (by decide +kernel))
  · exact hts _ ixc_ch
  · exact hts _ (zTab_mem (p := 138) (by decide +kernel))
  · exact hts _ (zTab_mem (p := 137) (by decide +kernel))
  · exact hts _ ixc_il
  · exact hts _ ixc_ln
  · exact hts _ (zTab_mem (p := 2431) (by decide +kernel))
  · exact hts _ (zTab_mem (p := 1109) (by decide +kernel))
  · exact ixd_co hts
  · exact hts _ (zTab_mem (p := 1111) (by decide +kernel))
  · exact hts _ (zTab_mem (p := 1110) (by decide +kernel))
  · exact hts _ (zTab_mem (p := 137) (by decide +kernel))
  · exact hts _ ixc_co
  · exact hts _ (zTab_mem (p := 1103) (by decide +kernel))
  · exact hts _ (zTab_mem (p := 2430) (by decide +kernel))
  · exact ht
theorem zix_ok : zmcp.all (fun q => !(Nat.beq q.2.2.1 1001) || (Nat.beq q.2.2.2.1 0 && zTab (q.2.2.2.2 + 119) (.methodLink (zCN q.1) q.2.1 Jvm.Free.StrIndexOf.indexOf1N))) = true := by decide +kernel
theorem z_linkI {o ix : Nat} (h : zmcp.any (fun q => Nat.beq q.1 o && Nat.beq q.2.1 ix && Nat.beq q.2.2.1 1001) = true) : Cond.methodLink (zCN o) ix Jvm.Free.StrIndexOf.indexOf1N ∈ zW := by
  obtain ⟨q, hq, hh⟩ := List.any_eq_true.mp h
  simp only [Bool.and_eq_true, Nat.beq_eq] at hh
  obtain ⟨⟨rfl, rfl⟩, h3⟩ := hh
  have h1 := List.all_eq_true.mp zix_ok q hq
  simp only [h3, show Nat.beq 1001 1001 = true from rfl, Bool.not_true, Bool.false_or, Bool.and_eq_true] at h1
  exact zTab_mem h1.2
theorem fld_keep {V U : State} (hal : V.vm.Alike U.vm) {a : Nat} {C : Cell} (h1 : V.heap[a]? = some C) (h2 : U.heap[a]? = some C) {o n d : String} {v : Value} (h : (Term.field (.arg 0) o n d).eval #[.ref a] V none [] V = some v) : (Term.field (.arg 0) o n d).eval #[.ref a] U none [] U = some v := by
  cases hfo : V.fieldFound? o n d with
  | none =>
    rw [va_fe (t := .arg 0) (a := a) rfl] at h
    simp [State.fieldOf?, State.fieldNamed?, hfo] at h
  | some x =>
    obtain ⟨cf, k, fi, f⟩ := x
    obtain ⟨s1, cell, s2, s3, s4, s5, s6⟩ := Term.field_spec (t := .arg 0) (a := a) hfo rfl h
    cases h1.symm.trans s2
    obtain ⟨k', hk', -⟩ := State.fieldFound?_setVm hal hfo
    exact Term.field_eval (t := .arg 0) (a := a) (s := U) hk' rfl s1 h2 s3 s4 (by rw [hal.assignable]; exact s5) s6
theorem ix_st {V U T s : State} {a d b0 : Nat} {C D : Cell} (hal : V.vm.Alike U.vm) (g2 : V.heap[a]? = some C) (c1 : U.heap[a]? = some C) (c2 : U.heap[d]? = some D) (g8 : (Cond.exactly (.arg 0) "java/lang/String").before #[.ref a] V = true)
    (g9 : (Term.field (.arg 0) "java/lang/String" "coder" "B").eval #[.ref a] V none [] V = some (.int 0)) (g10 : (Term.field (.arg 0) "java/lang/String" "value" "[B").eval #[.ref a] V none [] V = some (.ref d)) (g11 : V.isArrayOf D .byte) (g12 : D.vm ≠ .unknown) (g13 : D.slots.size = 13)
    (g14 : ∀ j : Nat, j < 13 → D.slots[j]? = some (.int (zNS.getD j 0))) (g15 : va_Z "java/lang/String" "COMPACT_STRINGS" "Z" (.int 1) (fun q => b0 ≤ q) U U.heap) : aSt a d 1 D U := by
  refine ⟨Jvm.Free.HMB.StrKey.exactly_keep hal g2 c1 g8, fld_keep hal g2 c1 g9, fld_keep hal g2 c1 g10, c2, State.isArrayOf_alike hal g11, g12, by rw [g13]; decide, fun i hi => ?_, ?_, by decide⟩
  · rw [g13] at hi
    unfold Jvm.Lib.StringLatin1.equals.intAt
    rw [g14 i hi]
  · obtain ⟨cf, kf, fi, f, a3, cell, z1, z2, z3, z4, z5, z6, z7, -⟩ := g15
    exact ⟨cf, fi, kf, f, a3, cell, z1, z2, z3, z4, z5, (fun e => by rw [e] at z6; cases z6), z7⟩
end STR

-- ===== runs that only read: two heaps that agree on what is read give the same answer =====
def lkV (A : List Nat) (v : Value) : Prop := match v with
  | .ref q => q = 72 ∨ q ∈ A
  | .int _ => True
  | .long _ => True
  | _ => False
def lkS (A : List Nat) (st : List Value) : Prop := ∀ v, v ∈ st → lkV A v
def lkL (A : List Nat) (l : aL) : Prop := ∀ i v, aG l i = some v → lkV A v
def lkH (F A : List Nat) (h h' : aH) : Prop := ∃ fs fs' : List Value, h.1[72]? = some (.inr (12, fs)) ∧ h'.1[72]? = some (.inr (12, fs')) ∧ (∀ f, f ∈ F → fs'[f]? = fs[f]? ∧ ∀ v, fs[f]? = some v → lkV A v) ∧ (∀ r, r ∈ A → h'.1[r]? = h.1[r]? ∧ ∃ x, h.1[r]? = some (.inl x))
def lkI (F SM : List Nat) (i : aI) : Bool := match i.2.1 with
  | .iconst _ => true
  | .bipush _ => true
  | .sipush _ => true
  | .iload_n _ => true
  | .iload _ => true
  | .aload_n _ => true
  | .istore_n _ => true
  | .istore _ => true
  | .iinc _ _ => true
  | .iadd => true
  | .isub => true
  | .imul => true
  | .iand => true
  | .ishr => true
  | .idiv => true
  | .goto _ => true
  | .ifCond _ _ => true
  | .if_icmp _ _ => true
  | .iaload => true
  | .baload => true
  | .ireturn => true
  | .getfield _ => Nat.beq i.2.2.2.1 12 && F.contains i.2.2.2.2
  | .invokestatic _ => Nat.blt i.2.2.2.1 1000 && SM.contains i.2.2.2.1
  | .invokevirtual _ => Nat.blt i.2.2.2.1 1000 && SM.contains i.2.2.2.1
  | _ => false
def lkM (F SM : List Nat) (M : aM) : Bool := M.2.2.2.2.2.2.2.all (lkI F SM)
def lkAll (F SM : List Nat) : Bool := SM.all (fun a => match zmt[a]? with
  | some Y => lkM F SM Y
  | none => true)
theorem lkL_set {A : List Nat} {l : aL} {j : Nat} {x : Option Value} (hl : lkL A l) (hx : ∀ v, x = some v → lkV A v) : lkL A (l.set j x) := by
  intro i v e
  have e := aG_get.mp e
  rw [List.getElem?_set] at e
  split at e
  · split at e
    · exact hx v (Option.some.inj e)
    · cases e
  · exact hl i v (aG_get.mpr e)
theorem lkL_clr {A : List Nat} {l : aL} {j : Nat} (hl : lkL A l) : lkL A (aclr l j) := by
  unfold aclr
  split
  · exact hl
  · split
    · exact lkL_set hl (fun v e => by cases e)
    · exact lkL_set hl (fun v e => by cases e)
    · exact hl
theorem lkL_S1 {A : List Nat} {l : aL} {j : Nat} {x : Value} (hl : lkL A l) (hx : lkV A x) : lkL A (aS1 l j x) := lkL_set (lkL_clr hl) (fun v e => by cases e; exact hx)
theorem lkL_cons {A : List Nat} {x : Option Value} {l : aL} (hx : ∀ v, x = some v → lkV A v) (hl : lkL A l) : lkL A (x :: l) := by
  intro i v e
  have e := aG_get.mp e
  cases i with
  | zero => exact hx v (Option.some.inj e)
  | succ i => exact hl i v (aG_get.mpr e)
theorem lkL_E {A : List Nat} : ∀ (as : List Value) (n : Nat), lkS A as → lkL A (aE n as)
  | [], n, _ => by
    intro i v e
    have e := aG_get.mp e
    simp only [aE, List.getElem?_replicate] at e
    split at e <;> cases e
  | x :: r, n, h => by
    have ih := fun m => lkL_E r m (fun v hv => h v (List.mem_cons_of_mem _ hv))
    have hx : ∀ v, some x = some v → lkV A v := fun v e => by cases e; exact h x List.mem_cons_self
    unfold aE
    cases Nat.beq x.category 2 with
    | true => exact lkL_cons hx (lkL_cons (fun v e => by cases e) (ih _))
    | false => exact lkL_cons hx (ih _)
theorem lkS_cons {A : List Nat} {x : Value} {st : List Value} (hx : lkV A x) (hs : lkS A st) : lkS A (x :: st) := fun v hv => (List.mem_cons.mp hv).elim (fun e => e ▸ hx) (hs v)
theorem lkS_tl {A : List Nat} {x : Value} {st : List Value} (hs : lkS A (x :: st)) : lkS A st := fun v hv => hs v (List.mem_cons_of_mem _ hv)
theorem lkS_nil {A : List Nat} : lkS A [] := fun v hv => by cases hv
theorem lkM_of {F SM : List Nat} (hA : lkAll F SM = true) {a : Nat} {Y : aM} (ha : SM.contains a = true) (hY : zmt[a]? = some Y) : lkM F SM Y = true := by
  have := List.all_eq_true.mp hA a (List.contains_iff_mem.mp ha)
  simp only [hY] at this
  exact this
theorem lk_obj {F A : List Nat} {h h' : aH} (HH : lkH F A h h') {o a : Nat} {fs : List Value} (ho : lkV A (.ref o)) (c : h.1[o]? = some (.inr (a, fs))) : o = 72 := by
  rcases ho with e | e
  · exact e
  · obtain ⟨f1, f2, -, -, -, k⟩ := HH
    obtain ⟨-, x, e2⟩ := k o e
    rw [c] at e2
    cases e2
theorem lk_arr {F A : List Nat} {h h' : aH} (HH : lkH F A h h') {o : Nat} {x : Nat × vp_A} (ho : lkV A (.ref o)) (c : h.1[o]? = some (.inl x)) : h'.1[o]? = some (.inl x) := by
  obtain ⟨f1, f2, c1, c2, -, k⟩ := HH
  rcases ho with e | e
  · subst e
    rw [c] at c1
    cases c1
  · rw [(k o e).1, c]
set_option maxHeartbeats 4000000 in
theorem lk_run {X : aX} {F A SM : List Nat} (hA : lkAll F SM = true) {h h' : aH} (HH : lkH F A h h') : ∀ (n d : Nat) (M : aM) (pc : Nat) (l : aL) (st : List Value) (v : Option Value) (h1 : aH), lkM F SM M = true → lkL A l → lkS A st → arun X n d M pc l st h = some (v, h1) → h1 = h ∧ (∀ w, v = some w → lkV A w) ∧ arun X n d M pc l st h' = some (v, h') := by
  intro n
  induction n with
  | zero =>
    intro d M pc l st v h1 _ _ _ hr
    unfold arun at hr
    cases hr
  | succ n ih =>
    intro d M pc l st v h1 hM hl hs hr
    cases hf : aF pc M.2.2.2.2.2.2.2 with
    | none =>
      unfold arun at hr
      rw [hf] at hr
      cases hr
    | some i =>
      obtain ⟨hm, hpc⟩ := aF_some hf
      have hc := List.all_eq_true.mp hM i hm
      obtain ⟨ipc, ins, len, a, b⟩ := i
      dsimp only at hpc
      subst hpc
      unfold lkI at hc
      dsimp only at hc
      have V1 : ∀ x : Int32, lkV A (.int x) := fun _ => trivial
      split at hc
      · rw [r_iconst hf rfl] at hr ⊢; exact ih _ _ _ _ _ _ _ hM hl (lkS_cons (V1 _) hs) hr
      · rw [r_bipush hf rfl] at hr ⊢; exact ih _ _ _ _ _ _ _ hM hl (lkS_cons (V1 _) hs) hr
      · rw [r_sipush hf rfl] at hr ⊢; exact ih _ _ _ _ _ _ _ hM hl (lkS_cons (V1 _) hs) hr
      · have hr' := hr
        rw [arun_p hf rfl] at hr'
        unfold aX1 at hr'
        dsimp only at hr'
        split at hr'
        · rename_i x e
          rw [r_iloadn hf e] at hr ⊢
          exact ih _ _ _ _ _ _ _ hM hl (lkS_cons (V1 _) hs) hr
        · cases hr'
      · have hr' := hr
        rw [arun_p hf rfl] at hr'
        unfold aX1 at hr'
        dsimp only at hr'
        split at hr'
        · rename_i x e
          rw [r_iload hf e] at hr ⊢
          exact ih _ _ _ _ _ _ _ hM hl (lkS_cons (V1 _) hs) hr
        · cases hr'
      · have hr' := hr
        rw [arun_p hf rfl] at hr'
        unfold aX1 at hr'
        dsimp only at hr'
        split at hr'
        · rename_i x e
          rw [r_aloadn hf e] at hr ⊢
          exact ih _ _ _ _ _ _ _ hM hl (lkS_cons (hl _ _ e) hs) hr
        · rename_i x e
          exact (hl _ _ e).elim
        · rename_i e
          exact (hl _ _ e).elim
        · cases hr'
      · have hr' := hr
        rw [arun_p hf rfl] at hr'
        unfold aX1 at hr'
        dsimp only at hr'
        obtain ⟨x, r, rfl, hr'⟩ := tI_some hr'
        obtain ⟨hz, -⟩ := abif hr'
        rw [r_istoren hf hz rfl] at hr ⊢
        exact ih _ _ _ _ _ _ _ hM (lkL_S1 hl (V1 _)) (lkS_tl hs) hr
      · have hr' := hr
        rw [arun_p hf rfl] at hr'
        unfold aX1 at hr'
        dsimp only at hr'
        obtain ⟨x, r, rfl, hr'⟩ := tI_some hr'
        obtain ⟨hz, -⟩ := abif hr'
        rw [r_istore hf hz rfl] at hr ⊢
        exact ih _ _ _ _ _ _ _ hM (lkL_S1 hl (V1 _)) (lkS_tl hs) hr
      · have hr' := hr
        rw [arun_p hf rfl] at hr'
        unfold aX1 at hr'
        dsimp only at hr'
        split at hr'
        · rename_i x e
          rw [r_iinc hf e rfl rfl] at hr ⊢
          exact ih _ _ _ _ _ _ _ hM (lkL_S1 hl (V1 _)) hs hr
        · cases hr'
      · have hr' := hr
        rw [arun_p hf rfl] at hr'
        unfold aX1 at hr'
        dsimp only at hr'
        obtain ⟨x, y, r, rfl, -⟩ := tII_some hr'
        rw [r_iadd hf rfl] at hr ⊢
        exact ih _ _ _ _ _ _ _ hM hl (lkS_cons (V1 _) (lkS_tl (lkS_tl hs))) hr
      · have hr' := hr
        rw [arun_p hf rfl] at hr'
        unfold aX1 at hr'
        dsimp only at hr'
        obtain ⟨x, y, r, rfl, -⟩ := tII_some hr'
        rw [r_isub hf rfl] at hr ⊢
        exact ih _ _ _ _ _ _ _ hM hl (lkS_cons (V1 _) (lkS_tl (lkS_tl hs))) hr
      · have hr' := hr
        rw [arun_p hf rfl] at hr'
        unfold aX1 at hr'
        dsimp only at hr'
        obtain ⟨x, y, r, rfl, -⟩ := tII_some hr'
        rw [r_imul hf rfl] at hr ⊢
        exact ih _ _ _ _ _ _ _ hM hl (lkS_cons (V1 _) (lkS_tl (lkS_tl hs))) hr
      · have hr' := hr
        rw [arun_p hf rfl] at hr'
        unfold aX1 at hr'
        dsimp only at hr'
        obtain ⟨x, y, r, rfl, -⟩ := tII_some hr'
        rw [r_iand hf rfl] at hr ⊢
        exact ih _ _ _ _ _ _ _ hM hl (lkS_cons (V1 _) (lkS_tl (lkS_tl hs))) hr
      · have hr' := hr
        rw [arun_p hf rfl] at hr'
        unfold aX1 at hr'
        dsimp only at hr'
        obtain ⟨x, y, r, rfl, -⟩ := tII_some hr'
        rw [r_ishr hf rfl] at hr ⊢
        exact ih _ _ _ _ _ _ _ hM hl (lkS_cons (V1 _) (lkS_tl (lkS_tl hs))) hr
      · have hr' := hr
        rw [arun_p hf rfl] at hr'
        unfold aX1 at hr'
        dsimp only at hr'
        obtain ⟨x, y, r, rfl, hr'⟩ := tII_some hr'
        obtain ⟨hy, -⟩ := anite hr'
        rw [r_idiv hf hy rfl] at hr ⊢
        exact ih _ _ _ _ _ _ _ hM hl (lkS_cons (V1 _) (lkS_tl (lkS_tl hs))) hr
      · rw [r_goto hf] at hr ⊢; exact ih _ _ _ _ _ _ _ hM hl hs hr
      · have hr' := hr
        rw [arun_p hf rfl] at hr'
        unfold aX1 at hr'
        dsimp only at hr'
        obtain ⟨x, r, rfl, -⟩ := tI_some hr'
        rw [r_cond hf] at hr ⊢
        revert hr
        generalize dBr _ x.toInt 0 = bb
        intro hr
        cases bb with
        | true => exact ih _ _ _ _ _ _ _ hM hl (lkS_tl hs) hr
        | false => exact ih _ _ _ _ _ _ _ hM hl (lkS_tl hs) hr
      · have hr' := hr
        rw [arun_p hf rfl] at hr'
        unfold aX1 at hr'
        dsimp only at hr'
        obtain ⟨x, y, r, rfl, -⟩ := tII_some hr'
        rw [r_cmp hf] at hr ⊢
        revert hr
        generalize dBr _ x.toInt y.toInt = bb
        intro hr
        cases bb with
        | true => exact ih _ _ _ _ _ _ _ hM hl (lkS_tl (lkS_tl hs)) hr
        | false => exact ih _ _ _ _ _ _ _ hM hl (lkS_tl (lkS_tl hs)) hr
      · have hr' := hr
        rw [arun_p hf rfl] at hr'
        unfold aX1 at hr'
        dsimp only at hr'
        split at hr'
        · rename_i j o r
          obtain ⟨t, k, g, c, hr'⟩ := aarI_some hr'
          obtain ⟨ht, hr'⟩ := abif hr'
          obtain ⟨hj, -⟩ := anite hr'
          cases Nat.eq_of_beq_eq_true ht
          have c' := lk_arr HH (hs _ (List.mem_cons_of_mem _ List.mem_cons_self)) c
          rw [r_iald hf c hj rfl] at hr
          rw [r_iald hf c' hj rfl]
          exact ih _ _ _ _ _ _ _ hM hl (lkS_cons (V1 _) (lkS_tl (lkS_tl hs))) hr
        · rename_i j e r
          exact (hs (.retAddr e) (List.mem_cons_of_mem _ List.mem_cons_self)).elim
        · cases hr'
      · have hr' := hr
        rw [arun_p hf rfl] at hr'
        unfold aX1 at hr'
        dsimp only at hr'
        split at hr'
        · rename_i j o r
          obtain ⟨t, k, g, c, hr'⟩ := aarI_some hr'
          obtain ⟨ht, hr'⟩ := abif hr'
          obtain ⟨hj, -⟩ := anite hr'
          have c' := lk_arr HH (hs _ (List.mem_cons_of_mem _ List.mem_cons_self)) c
          rw [Bool.or_eq_true] at ht
          rcases ht with ht | ht
          · cases Nat.eq_of_beq_eq_true ht
            rw [r_zald hf c hj rfl] at hr
            rw [r_zald hf c' hj rfl]
            exact ih _ _ _ _ _ _ _ hM hl (lkS_cons (V1 _) (lkS_tl (lkS_tl hs))) hr
          · cases Nat.eq_of_beq_eq_true ht
            rw [r_bald hf c hj rfl] at hr
            rw [r_bald hf c' hj rfl]
            exact ih _ _ _ _ _ _ _ hM hl (lkS_cons (V1 _) (lkS_tl (lkS_tl hs))) hr
        · cases hr'
      · -- ireturn
        have hr' := hr
        unfold arun at hr'
        rw [hf] at hr'
        dsimp only at hr'
        split at hr'
        · rename_i x
          unfold aretI at hr'
          split at hr'
          · rename_i e
            cases hr'
            exact ⟨rfl, fun w e => by cases e; trivial, r_ireturn hf e⟩
          · rename_i e
            rcases aite hr' with ⟨q, hr'⟩ | ⟨q, hr'⟩
            · cases hr'
              exact ⟨rfl, fun w e => by cases e; trivial, r_zreturn hf e q⟩
            · cases hr'
          · cases hr'
        · cases hr'
      · -- getfield
        rw [Bool.and_eq_true] at hc
        obtain ⟨hc1, hc2⟩ := hc
        cases Nat.eq_of_beq_eq_true hc1
        have hr' := hr
        rw [arun_p hf rfl] at hr'
        unfold aX1 at hr'
        dsimp only at hr'
        split at hr'
        · rename_i o r
          obtain ⟨f0, c, hq⟩ := aobj_some hr'
          have ho := lk_obj HH (hs _ List.mem_cons_self) c
          subst ho
          split at hq
          · rename_i w hw
            rw [r_get hf c hw] at hr
            obtain ⟨f1, f2, c1, c2, k1, k2⟩ := HH
            rw [c] at c1
            cases c1
            obtain ⟨k3, k4⟩ := k1 b (List.contains_iff_mem.mp hc2)
            rw [r_get hf c2 (k3.trans hw)]
            exact ih _ _ _ _ _ _ _ hM hl (lkS_cons (k4 _ hw) (lkS_tl hs)) hr
          · cases hq
        · cases hr'
      · -- invokestatic
        rw [Bool.and_eq_true, Nat.blt_eq] at hc
        obtain ⟨hc1, hc2⟩ := hc
        have b1 : Nat.beq a 1002 = false := by
          cases e : Nat.beq a 1002 with
          | false => rfl
          | true => have := Nat.eq_of_beq_eq_true e; omega
        have b2 : Nat.ble 1010 a = false := by
          cases e : Nat.ble 1010 a with
          | false => rfl
          | true => have := Nat.le_of_ble_eq_true e; omega
        have hr' := hr
        unfold arun at hr'
        rw [hf] at hr'
        dsimp only at hr'
        rw [b1, b2] at hr'
        simp only [cond_false] at hr'
        split at hr'
        · rename_i Y hY
          obtain ⟨q1, hr'⟩ := abif hr'
          obtain ⟨as, r, rfl, q2, hr'⟩ := acut_some hr'
          obtain ⟨q3, hr'⟩ := aent_some hr'
          obtain ⟨d', v2, h2, rfl, q4, q5, q6⟩ := aback_some hr'
          have has : lkS A as := fun v hv => hs v (List.mem_append_left _ (List.mem_reverse.mpr hv))
          have hsr : lkS A r := fun v hv => hs v (List.mem_append_right _ hv)
          obtain ⟨rfl, t2, t3⟩ := ih _ _ _ _ _ _ _ (lkM_of hA hc2 hY) (lkL_E as _ has) lkS_nil q5
          rw [r_stat hf (by rw [b1, b2]; rfl) hY (Nat.eq_of_beq_eq_true q1) rfl q2 (by rw [Nat.ble_eq]; exact q3) (by rw [Nat.ble_eq]; exact q4) rfl t3]
          refine ih _ _ _ _ _ _ _ hM hl ?_ q6
          intro w hw
          rcases List.mem_append.mp hw with e | e
          · cases v2 with
            | none => cases e
            | some u => cases List.mem_singleton.mp e; exact t2 _ rfl
          · exact hsr w e
        · cases hr'
      · -- invokevirtual
        rw [Bool.and_eq_true, Nat.blt_eq] at hc
        obtain ⟨hc1, hc2⟩ := hc
        have b1 : Nat.beq a 1001 = false := by
          cases e : Nat.beq a 1001 with
          | false => rfl
          | true => have := Nat.eq_of_beq_eq_true e; omega
        have hr' := hr
        unfold arun at hr'
        rw [hf] at hr'
        dsimp only at hr'
        rw [b1] at hr'
        simp only [cond_false] at hr'
        split at hr'
        · rename_i Y hY
          obtain ⟨q1, hr2⟩ := abif hr'
          clear hr'
          obtain ⟨as, r, rfl, q2, hr3⟩ := acut_some hr2
          clear hr2
          rcases r with _ | ⟨v0, r'⟩
          · cases hr3
          cases v0 <;> (try (cases hr3; done))
          · rename_i o
            obtain ⟨f0, c, hr4⟩ := aobj_some hr3
            obtain ⟨q3, hr5⟩ := aent_some hr4
            obtain ⟨d', v2, h2, rfl, q4, q5, q6⟩ := aback_some hr5
            have has : lkS A as := fun v hv => hs v (List.mem_append_left _ (List.mem_reverse.mpr hv))
            have hsr : lkS A (.ref o :: r') := fun v hv => hs v (List.mem_append_right _ hv)
            obtain ⟨rfl, t2, t3⟩ := ih _ _ _ _ _ _ _ (lkM_of hA hc2 hY) (lkL_E _ _ (lkS_cons (hsr _ List.mem_cons_self) has)) lkS_nil q5
            have c' : ∃ fs', h'.1[o]? = some (.inr (Y.1, fs')) := by
              cases lk_obj HH (hsr _ List.mem_cons_self) c
              obtain ⟨f1, f2, c1, c2, -, -⟩ := HH
              have e1 := (Prod.mk.inj (Sum.inr.inj (Option.some.inj (c.symm.trans c1)))).1
              exact ⟨f2, by rw [e1]; exact c2⟩
            obtain ⟨fs', c'⟩ := c'
            rw [r_virt hf c' hY (Nat.eq_of_beq_eq_true q1) rfl q2 (by rw [Nat.ble_eq]; exact q3) (by rw [Nat.ble_eq]; exact q4) rfl t3]
            refine ih _ _ _ _ _ _ _ hM hl ?_ q6
            intro w hw
            rcases List.mem_append.mp hw with e | e
            · cases v2 with
              | none => cases e
              | some u => cases List.mem_singleton.mp e; exact t2 _ rfl
            · exact hsr w (List.mem_cons_of_mem _ e)
        · cases hr'
      · cases hc

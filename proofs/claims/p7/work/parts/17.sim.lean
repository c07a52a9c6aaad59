-- ===== the simulation: by induction over the run =====
theorem aE_len : ∀ (as : List Value) (n : Nat), aws as ≤ n → (aE n as).length = n
  | [], n, _ => by simp [aE]
  | v :: r, n, h => by
    unfold aE
    simp only [aws] at h
    rcases lv_cat v with q | q
    · rw [show Nat.beq v.category 2 = false by rw [q]; rfl]
      simp only [cond_false, List.length_cons]
      rw [aE_len r (n - 1) (by omega)]
      omega
    · rw [show Nat.beq v.category 2 = true by rw [q]; rfl]
      simp only [cond_true, List.length_cons]
      rw [aE_len r (n - 2) (by omega)]
      omega
theorem aE_get {b0 : Nat} {ea : Nat → Nat} : ∀ (as : List Value) (n off i : Nat) (v : Value), (aE n as)[i]? = some (some v) → (off + i, acv b0 ea v) ∈ lv_args off (as.map (acv b0 ea))
  | [], n, off, i, v, h => by
    simp only [aE, List.getElem?_replicate] at h
    split at h <;> cases h
  | w :: r, n, off, i, v, h => by
    unfold aE at h
    simp only [List.map_cons, lv_args, acv_cat]
    rcases lv_cat w with q | q
    · rw [show Nat.beq w.category 2 = false by rw [q]; rfl] at h
      rw [if_neg (by omega)]
      simp only [cond_false] at h
      match i, h with
      | 0, h => cases h; exact List.mem_cons_self
      | i + 1, h =>
        refine List.mem_cons_of_mem _ ?_
        have := aE_get (b0 := b0) (ea := ea) r (n - 1) (off + 1) i v h
        rw [show off + (i + 1) = off + 1 + i by omega]
        exact this
    · rw [show Nat.beq w.category 2 = true by rw [q]; rfl] at h
      rw [if_pos q]
      simp only [cond_true] at h
      match i, h with
      | 0, h => cases h; exact List.mem_cons_self
      | 1, h => cases h
      | i + 2, h =>
        refine List.mem_cons_of_mem _ ?_
        have := aE_get (b0 := b0) (ea := ea) r (n - 2) (off + 2) i v h
        rw [show off + (i + 2) = off + 2 + i by omega]
        exact this
theorem lg_len {b0 : Nat} {ea : Nat → Nat} : ∀ (as : List Value), (lg_sl (as.map (acv b0 ea))).length = aws as
  | [] => rfl
  | v :: r => by
    have ih := lg_len (b0 := b0) (ea := ea) r
    unfold lg_sl at ih ⊢
    simp only [List.map_cons, List.flatMap_cons, List.length_append, aws, ih, acv_cat]
    rcases lv_cat v with q | q
    · rw [if_neg (by omega), q]; rfl
    · rw [if_pos q, q]; rfl
theorem aE_R {b0 : Nat} {ea : Nat → Nat} {as : List Value} {n : Nat} (h : aws as ≤ n) : alR b0 ea ((lg_sl (as.map (acv b0 ea)) ++ List.replicate (n - (lg_sl (as.map (acv b0 ea))).length) Slot.unset).toArray) n (aE n as) := by
  obtain ⟨h1, h2, h3⟩ := lv_entry (as.map (acv b0 ea)) (n := n) (by rw [lg_len]; exact h)
  refine ⟨aE_len as n h, h1, h2, fun i v hv => ?_⟩
  have := aE_get (b0 := b0) (ea := ea) as n 0 i v (aG_lt hv)
  rw [Nat.zero_add] at this
  exact h3 _ this
def aRet (Γ : aGm) (M : aM) (pc : Nat) (st : List Value) (v : Option Value) : Prop :=
  (∃ x, st = [.int x] ∧ v = some (.int x) ∧ aDC Γ pc .ireturn 1 ∧ (M.2.2.2.2.1 = some .int ∨ (M.2.2.2.2.1 = some .boolean ∧ (x = 0 ∨ x = 1)))) ∨
  (∃ x, st = [.long x] ∧ v = some (.long x) ∧ aDC Γ pc .lreturn 1 ∧ M.2.2.2.2.1 = some .long) ∨
  (∃ x C, st = [.ref x] ∧ v = some (.ref x) ∧ aDC Γ pc .areturn 1 ∧ M.2.2.2.2.1 = some (.object C)) ∨
  (st = [] ∧ v = none ∧ aDC Γ pc .return_ 1 ∧ M.2.2.2.2.1 = none)
def aFin (Γ : aGm) (M : aM) (v : Option Value) (h' : aH) : Prop := ∀ (pc : Nat) (L : aL) (st : List Value), aRet Γ M pc st v → aSW Γ pc L st h'
def aCd (Γ : aGm) (M : aM) : Prop := match Γ with
  | (p, l, e, R, s, m, args, below, meth, c, Q, cc, nL, b0, n0, u0, own, kind, D, cA, ea, X) => zchk M.1 cc M.2.2.2.2.2.2.2 = true ∧ own = M.1 ∧ kind = M.2.2.2.2.2.2.1
def aS (X : aX) (n : Nat) : Prop := ∀ (Γ : aGm) (d : Nat) (M : aM) (pc : Nat) (L : aL) (st : List Value) (h : aH) (v : Option Value) (h' : aH), aXX Γ = X → arun X n d M pc L st h = some (v, h') → aCd Γ M → aCF Γ → aRm Γ d h' → aFin Γ M v h' → aSW Γ pc L st h
theorem aM_of {X : aX} {n : Nat} (hS : aS X n) (l : Launch) (D : va_G) (cA : Nat → ClassId) (ea : Nat → Nat) (b0 d : Nat) (Y : aM) (as : List Value) (h : aH) (v : Option Value) (h' : aH) (hY : Y ∈ zmt) (hrun : arun X n d Y 0 (aE Y.2.2.2.1 as) [] h = some (v, h')) (has : aws as ≤ Y.2.2.2.1) : aMet l D cA ea b0 X d Y as h v h' := by
  have hok := zmt_ok Y hY
  obtain ⟨pl, d1, d2, d3, d4, d5, d6⟩ := zMok_d hok
  have hgr := arun_grows _ _ _ _ _ _ _ _ hrun
  dsimp only at hgr
  refine Met.ofW (cc := Y.2.2.1) (maxL := Y.2.2.2.1) (ret := Y.2.2.2.2.1) pl rfl ?_
  intro p e s m args below meth c s₁ B hml hv
  obtain ⟨rfl, hsz, hP, hK⟩ := hv
  have hx := B.exec
  have hb := B.bytes
  have hr := B.returns
  have hts0 := atoms_spec (ws := aWs Y) B.pre
  have hown : s.vm.findClass Y.2.1.cls = some m.cls := findClass_of_methodNamed B.named
  have hlocks := B.notSynchronized
  have hnm : meth.name = Y.2.1.name := (name_of_methodNamed B.named B.method).1
  rw [lg_entry_eq]
  have key := hS (p, l, e, aRoom d (h'.1.length - h.1.length) (h'.2 - h.2), s, m, (as.map (acv b0 ea)).toArray, below, meth, c, MQ below (aQ D cA ea b0 v h') (as.map (acv b0 ea)).toArray s (h'.1.length - h.1.length) (h'.2 - h.2) (fun q => b0 ≤ q), Y.2.2.1, Y.2.2.2.1, b0, h.1.length, h.2, Y.1, Y.2.2.2.2.2.2.1, D, cA, ea, X) d Y 0 (aE Y.2.2.2.1 as) [] h v h' rfl hrun ⟨hok.1, rfl, rfl⟩
    ⟨hx, hb, hml, by rw [d4]; exact hown, fun w hw => hts0 w (List.mem_cons_of_mem _ hw), hK, hsz, fun q => hnm.trans (d6 q).1⟩
    ⟨⟨by show h'.1.length ≤ h.1.length + (h'.1.length - h.1.length); omega, by show h'.2 ≤ h.2 + (h'.2 - h.2); omega⟩, Nat.le_refl _, Nat.le_refl _⟩ (by
      intro pc L st hret H locs ls cells slots e1 e2 hP2 hS2 hl
      have ec : cells = h'.1.length - h.1.length := by omega
      have es : slots = h'.2 - h.2 := by omega
      subst ec
      subst es
      have hq : ∀ (w : Option Value), w = v.map (acv b0 ea) → ∀ t : State, t.heap = H → s.WarmedH t.vm → aQ D cA ea b0 v h' (as.map (acv b0 ea)).toArray s (.returned w) t := fun w hw t ht _ => ⟨by rw [hw], by rw [ht]; exact hP2, by rw [ht]; exact hS2.1, fun q q1 q2 => by rw [ht]; exact hS2.2.1 q q1 q2⟩
      rcases hret with ⟨x, rfl, rfl, hd, hty | ⟨hty, hx01⟩⟩ | ⟨x, rfl, rfl, hd, hty⟩ | ⟨x, C, rfl, rfl, hd, hty⟩ | ⟨rfl, rfl, hd, hty⟩
      · exact W.iret (v := x) hx hb (hr.trans hty) (hq _ rfl) hS2.2.2 hd hlocks
      · exact W.zret (v := x) (ty := .boolean) hx hb (hr.trans hty) (by rcases hx01 with rfl | rfl <;> rfl) (hq _ rfl) hS2.2.2 hd hlocks
      · exact W.lret (v := x) hx hb (hr.trans hty) (hq _ rfl) hS2.2.2 hd hlocks
      · exact W.aret (v := .ref (b0 + x)) (rt := .object C) hx hb (hr.trans hty) (Or.inl ⟨C, rfl⟩) (Or.inr ⟨_, rfl⟩) (hq _ rfl) hS2.2.2 hd hlocks
      · exact W.vret hx hb (hr.trans hty) (hq _ rfl) hS2.2.2 hd hlocks)
  exact key s.heap [] _ 0 0 rfl rfl hP va_S.rf (aE_R has)
theorem aCd_at {Γ : aGm} {M : aM} (h : aCd Γ M) {i : aI} (hi : i ∈ M.2.2.2.2.2.2.2) : aDC Γ i.1 i.2.1 (zlen i.2.1 i.2.2.1) ∧ zchkI (aown Γ) i = true ∧ aown Γ = M.1 ∧ akind Γ = M.2.2.2.2.2.2.1 := by
  obtain ⟨p, l, e, R, s, m, args, below, meth, c, Q, cc, nL, b0, n0, u0, own, kind, D, cA, ea, X⟩ := Γ
  obtain ⟨h1, rfl, rfl⟩ := h
  have h2 := List.all_eq_true.mp h1 i hi
  obtain ⟨h3, h4⟩ := (Bool.and_eq_true _ _).mp h2
  have h5 : decode cc i.1 = .ok (i.2.1, zlen i.2.1 i.2.2.1) := of_decide_eq_true h3
  exact ⟨h5, h4, rfl, rfl⟩
theorem aRm_of {Γ : aGm} {d : Nat} {h h' : aH} (hR : aRm Γ d h') (h1 : h.1.length ≤ h'.1.length) (h2 : h.2 ≤ h'.2) : aRM Γ h := by
  obtain ⟨p, l, e, R, s, m, args, below, meth, c, Q, cc, nL, b0, n0, u0, own, kind, D, cA, ea, X⟩ := Γ
  obtain ⟨⟨g1, g2⟩, -, -⟩ := hR
  exact ⟨Nat.le_trans h1 g1, Nat.le_trans h2 g2⟩
theorem aMG_of {X : aX} {n : Nat} (hS : aS X n) {Γ : aGm} (hX : aXX Γ = X) {d : Nat} {Y : aM} {as : List Value} {h h' : aH} {v : Option Value} (hY : Y ∈ zmt) (hrun : arun X n d Y 0 (aE Y.2.2.2.1 as) [] h = some (v, h')) (has : aws as ≤ Y.2.2.2.1) : aMG Γ d Y as h v h' := by
  obtain ⟨p, l, e, R, s, m, args, below, meth, c, Q, cc, nL, b0, n0, u0, own, kind, D, cA, ea, X'⟩ := Γ
  have hX : X' = X := hX
  subst hX
  exact aM_of hS l D cA ea b0 d Y as h v h' hY hrun has
theorem zmt_b13 : zmt.all (fun Y => Nat.blt Y.1 13 || Nat.beq Y.2.2.2.2.2.2.1 1) = true := by decide +kernel
set_option maxHeartbeats 4000000 in
theorem a_sim (X : aX) : ∀ n, aS X n := by
  intro n
  induction n with
  | zero => intro Γ d M pc L st h v h' _ he; cases he
  | succ n ih =>
    intro Γ d M pc L st h v h' hX he hCd C hR hF
    have hgrow : ∀ {d : Nat} {M : aM} {pc : Nat} {L : aL} {st : List Value} {h : aH} {v : Option Value} {h' : aH}, arun X n d M pc L st h = some (v, h') → h.1.length ≤ h'.1.length ∧ h.2 ≤ h'.2 := fun g => arun_grows _ _ _ _ _ _ _ _ g
    have go : ∀ {pc' : Nat} {L' : aL} {st' : List Value} {h1 : aH}, arun X n d M pc' L' st' h1 = some (v, h') → aSW Γ pc' L' st' h1 := fun g => ih Γ d M _ _ _ _ v h' hX g hCd C hR hF
    unfold arun at he
    split at he
    · cases he
    · rename_i i hi
      obtain ⟨him, hpc⟩ := aF_some hi
      subst hpc
      obtain ⟨hd, hc, hown, hkind⟩ := aCd_at hCd him
      obtain ⟨pc, ins, len, a, b⟩ := i
      dsimp only at he hd hc him hi ⊢
      split at he
      · split at he
        · obtain ⟨g1, g2⟩ := aretI_some he
          cases g1
          exact hF _ _ _ (Or.inl ⟨_, rfl, rfl, hd, g2⟩)
        · cases he
      · split at he
        · rename_i hty
          cases he
          exact hF _ _ _ (Or.inr (Or.inl ⟨_, rfl, rfl, hd, hty⟩))
        · cases he
      · split at he
        · rename_i hty
          cases he
          exact hF _ _ _ (Or.inr (Or.inr (Or.inl ⟨_, _, rfl, rfl, hd, hty⟩)))
        · cases he
      · split at he
        · rename_i hty
          cases he
          exact hF _ _ _ (Or.inr (Or.inr (Or.inr ⟨rfl, rfl, hd, hty⟩)))
        · cases he
      · cases hb2 : Nat.beq a 1002 with
        | true =>
          have ha := Nat.eq_of_beq_eq_true hb2
          subst ha
          rw [hb2] at he
          simp only [cond_true] at he
          unfold acopy at he
          split at he
          · obtain ⟨h8, he⟩ := abif he
            split at he
            · rename_i g0 g1
              obtain ⟨hq, he⟩ := anite he
              obtain ⟨hf, he⟩ := abif he
              exact s_cp3 g0 g1 hq hf hc (Nat.le_of_ble_eq_true h8) hR C hd (go he)
            · rename_i g0 g1
              obtain ⟨hq, he⟩ := anite he
              exact s_cp1 g0 g1 hq hc (Nat.le_of_ble_eq_true h8) hR C hd (go he)
            · rename_i g0 g1
              obtain ⟨hq, he⟩ := anite he
              exact s_cp0 g0 g1 hq hc (Nat.le_of_ble_eq_true h8) hR C hd (go he)
            · cases he
          · cases he
        | false =>
        rw [hb2] at he
        simp only [cond_false] at he
        cases hb : Nat.ble 1010 a with
        | true =>
          rw [hb] at he
          simp only [cond_true] at he
          unfold amath at he
          split at he
          · cases he
          · obtain ⟨x, y, r, rfl, he⟩ := tII_some he
            obtain ⟨h8, he⟩ := abif he
            exact s_m1010 hc (Nat.le_of_ble_eq_true h8) (hgrow he) hR C hd (go he)
          · obtain ⟨x, y, r, rfl, he⟩ := tII_some he
            obtain ⟨h8, he⟩ := abif he
            exact s_m1011 hc (Nat.le_of_ble_eq_true h8) (hgrow he) hR C hd (go he)
          · obtain ⟨x, r, rfl, he⟩ := tI_some he
            obtain ⟨h8, he⟩ := abif he
            exact s_m1012 hc (Nat.le_of_ble_eq_true h8) (hgrow he) hR C hd (go he)
          · obtain ⟨x, y, r, rfl, he⟩ := tJJ_some he
            obtain ⟨h8, he⟩ := abif he
            exact s_m1013 hc (Nat.le_of_ble_eq_true h8) (hgrow he) hR C hd (go he)
          · obtain ⟨x, y, r, rfl, he⟩ := tJJ_some he
            obtain ⟨h8, he⟩ := abif he
            exact s_m1014 hc (Nat.le_of_ble_eq_true h8) (hgrow he) hR C hd (go he)
          · cases he
        | false =>
          rw [hb] at he
          simp only [cond_false] at he
          split at he
          · rename_i Y hY
            obtain ⟨hk1, he⟩ := abif he
            obtain ⟨as, r, rfl, hn, he⟩ := acut_some he
            obtain ⟨hw, he⟩ := aent_some he
            obtain ⟨d', v1, h1, rfl, h8, g1, g2⟩ := aback_some he
            have hm := List.mem_of_getElem? hY
            exact s_stat hY (zmt_ok Y hm) (Nat.eq_of_beq_eq_true hk1) hc hn h8 (aMG_of ih hX hm g1 hw) (hgrow g1) (hgrow g2) hR C hd (go g2)
          · cases he
      · cases hb1 : Nat.beq a 1001 with
        | true =>
          have ha := Nat.eq_of_beq_eq_true hb1
          subst ha
          rw [hb1] at he
          simp only [cond_true] at he
          obtain ⟨c', d', r, rfl, rfl, h8, he⟩ := aixof_some he
          refine s_ix ?_ h8 (hgrow he) hR C hd (go he)
          refine List.any_eq_true.mpr ?_
          obtain ⟨q, m1, m2⟩ := List.any_eq_true.mp (show zmcp.any (fun q => Nat.beq q.1 (aown Γ) && Nat.beq q.2.1 _ && Nat.beq q.2.2.1 1001 && Nat.beq q.2.2.2.1 0) = true from hc)
          rw [Bool.and_eq_true] at m2
          exact ⟨q, m1, m2.1⟩
        | false =>
        rw [hb1] at he
        simp only [cond_false] at he
        split at he
        · rename_i Y hY
          obtain ⟨hk1, he⟩ := abif he
          obtain ⟨as, r, rfl, hn, he⟩ := acut_some he
          split at he
          · rename_i o r'
            obtain ⟨fs, ho, he⟩ := aobj_some he
            obtain ⟨hw, he⟩ := aent_some he
            obtain ⟨d', v1, h1, rfl, h8, g1, g2⟩ := aback_some he
            have hm := List.mem_of_getElem? hY
            have hk0 := Nat.eq_of_beq_eq_true hk1
            have h13 : Y.1 < 13 := by
              rcases (Bool.or_eq_true _ _).mp (List.all_eq_true.mp zmt_b13 Y hm) with q | q
              · exact Nat.le_of_ble_eq_true q
              · have := Nat.eq_of_beq_eq_true q
                omega
            exact s_virt hY (zmt_ok Y hm) hk0 hc hn h8 ho h13 (aMG_of ih hX hm g1 hw) (hgrow g1) (hgrow g2) hR C hd (go g2)
          · cases he
        · cases he
      · cases hb : Nat.beq a 1000 with
        | true =>
          have ha := Nat.eq_of_beq_eq_true hb
          subst ha
          rw [hb] at he
          simp only [cond_true] at he
          split at he
          · obtain ⟨d', v1, h1, rfl, h8, g1, g2⟩ := aback_some he
            cases g1
            exact s_obj hc h8 hR C hd (go g2)
          · cases he
        | false =>
          rw [hb] at he
          simp only [cond_false] at he
          split at he
          · rename_i Y hY
            obtain ⟨hk1, he⟩ := abif he
            obtain ⟨as, r, rfl, hn, he⟩ := acut_some he
            split at he
            · rename_i o r'
              obtain ⟨hw, he⟩ := aent_some he
              obtain ⟨d', v1, h1, rfl, h8, g1, g2⟩ := aback_some he
              have hm := List.mem_of_getElem? hY
              exact s_init hY (zmt_ok Y hm) (Nat.eq_of_beq_eq_true hk1) hc hn h8 (aMG_of ih hX hm g1 hw) (hgrow g1) (hgrow g2) hR C hd (go g2)
            · cases he
          · cases he
      · rw [← hown, ← hkind] at he
        subst hX
        exact a_step (i := (pc, ins, len, a, b)) C hd hc (fun pc' L' st' h1 g => go g) (fun pc' L' st' h1 g => aRm_of hR (hgrow g).1 (hgrow g).2) he

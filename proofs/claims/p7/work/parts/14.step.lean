-- ===== an instruction that is neither a call nor a return: our machine's step is a step =====
theorem z_any1 {l : List (Nat × Nat × Nat × Nat)} {o ix a : Nat} (h : l.any (fun q => Nat.beq q.1 o && Nat.beq q.2.1 ix && Nat.beq q.2.2.1 a) = true) : ∃ p, (o, ix, a, p) ∈ l := by
  obtain ⟨q, hq, hh⟩ := List.any_eq_true.mp h
  simp only [Bool.and_eq_true, Nat.beq_eq] at hh
  obtain ⟨⟨rfl, rfl⟩, rfl⟩ := hh
  exact ⟨q.2.2.2, hq⟩
theorem z_cst {o ix a : Nat} (h : zkcp.any (fun q => Nat.beq q.1 o && Nat.beq q.2.1 ix && Nat.beq q.2.2.1 a) = true) : Cond.constant (zCN o) ix (Int32.ofNat a) ∈ zW := by
  obtain ⟨p, hp⟩ := z_any1 h
  exact zTab_mem (List.all_eq_true.mp zkcp_ok _ hp)
theorem z_cstl {o ix a : Nat} (h : zlcp.any (fun q => Nat.beq q.1 o && Nat.beq q.2.1 ix && Nat.beq q.2.2.1 a) = true) : Cond.constantLong (zCN o) ix (Int64.ofNat a) ∈ zW := by
  obtain ⟨p, hp⟩ := z_any1 h
  exact zTab_mem (List.all_eq_true.mp zlcp_ok _ hp)
theorem z_cls {o ix a : Nat} (h : zccp.any (fun q => Nat.beq q.1 o && Nat.beq q.2.1 ix && Nat.beq q.2.2.1 a) = true) : a < 13 ∧ Cond.classLink (zCN o) ix (zCN a) ∈ zW := by
  obtain ⟨p, hp⟩ := z_any1 h
  have h1 := List.all_eq_true.mp zccp_ok _ hp
  simp only [Bool.and_eq_true, decide_eq_true_eq] at h1
  exact ⟨h1.1, zTab_mem h1.2⟩
def zIW (c : Nat) : Bool := lw_tbl.any (fun w => match w with
  | .instantiable C n => decide (C = zCN c) && decide (n = zN c)
  | _ => false) && lw_tbl.any (fun w => match w with
  | .initialized C => decide (C = zCN c)
  | _ => false)
theorem zIW_ok : (List.range 13).all zIW = true := by decide +kernel
theorem z_ini {c : Nat} (hc : c < 13) : Cond.instantiable (zCN c) (zN c) ∈ zW ∧ Cond.initialized (zCN c) ∈ zW := by
  have h := List.all_eq_true.mp zIW_ok c (List.mem_range.mpr hc)
  unfold zIW at h
  obtain ⟨h1, h2⟩ := (Bool.and_eq_true _ _).mp h
  obtain ⟨w1, m1, g1⟩ := List.any_eq_true.mp h1
  obtain ⟨w2, m2, g2⟩ := List.any_eq_true.mp h2
  refine ⟨?_, ?_⟩
  · split at g1
    · simp only [Bool.and_eq_true, decide_eq_true_eq] at g1
      obtain ⟨rfl, rfl⟩ := g1
      exact zW_of m1 rfl
    · cases g1
  · split at g2
    · simp only [decide_eq_true_eq] at g2
      subst g2
      exact zW_of m2 rfl
    · cases g2
def zAW : Bool := ([ArrayType.int, ArrayType.long, ArrayType.boolean, ArrayType.byte] : List ArrayType).all (fun t => lw_tbl.any (fun w => match w with
  | .arrayClass ty => decide (ty = newarray.typeOf t)
  | _ => false))
theorem zAW_ok : zAW = true := by decide +kernel
theorem z_arr {a : Nat} {t : ArrayType} (h : zTy a = some t) : Cond.arrayClass (newarray.typeOf t) ∈ zW := by
  have hm : t ∈ ([ArrayType.int, ArrayType.long, ArrayType.boolean, ArrayType.byte] : List ArrayType) := by
    unfold zTy at h
    split at h <;> first | (cases h; simp) | cases h
  have h1 := List.all_eq_true.mp zAW_ok t hm
  obtain ⟨w, m, g⟩ := List.any_eq_true.mp h1
  split at g
  · simp only [decide_eq_true_eq] at g
    subst g
    exact zW_of m rfl
  · cases g
def zQW : Bool := lw_tbl.any (fun w => decide (w = Cond.classLink "AcresPaid$Accounts" 9 "AcresPaid$Season")) && lw_tbl.any (fun w => decide (w = Cond.classLink "AcresPaid$Colours" 19 "[I"))
theorem zQW_ok : zQW = true := by decide +kernel
theorem z_q4 : Cond.classLink (zCN 0) 9 "AcresPaid$Season" ∈ zW := by
  have h := ((Bool.and_eq_true _ _).mp zQW_ok).1
  obtain ⟨w, m, g⟩ := List.any_eq_true.mp h
  simp only [decide_eq_true_eq] at g
  subst g
  exact zW_of m rfl
theorem z_q5 : Cond.classLink (zCN 3) 19 "[I" ∈ zW := by
  have h := ((Bool.and_eq_true _ _).mp zQW_ok).2
  obtain ⟨w, m, g⟩ := List.any_eq_true.mp h
  simp only [decide_eq_true_eq] at g
  subst g
  exact zW_of m rfl
theorem alw_nn (pc : Nat) (x d : Int) : ∀ (l : List (Int × Int)), 0 ≤ (pc : Int) + d → (∀ q ∈ l, 0 ≤ (pc : Int) + q.2) → 0 ≤ (pc : Int) + Op.lookupswitch.offset l d x := by
  intro l
  induction l with
  | nil => intro h _; exact h
  | cons q r ih =>
    intro h hl
    obtain ⟨a, o⟩ := q
    rw [Op.lookupswitch.offset_cons]
    split
    · exact hl (a, o) List.mem_cons_self
    · exact ih h (fun q hq => hl q (List.mem_cons_of_mem _ hq))
set_option maxHeartbeats 4000000 in
theorem a_step {Γ : aGm} {k : Nat → aL → List Value → aH → Option aR} {i : aI} {L : aL} {st : List Value} {h : aH} {res : aR} (C : aCF Γ) (hd : aDC Γ i.1 i.2.1 (zlen i.2.1 i.2.2.1)) (hc : zchkI (aown Γ) i = true)
    (hk : ∀ pc' L' st' h', k pc' L' st' h' = some res → aSW Γ pc' L' st' h') (hR : ∀ pc' L' st' h', k pc' L' st' h' = some res → aRM Γ h') (he : aX1 (aXX Γ) (aown Γ) (akind Γ) k i L st h = some res) : aSW Γ i.1 L st h := by
  obtain ⟨pc, ins, len, a, b⟩ := i
  cases ins with
  | aconst_null =>
    exact s_null C hd (hk _ _ _ _ he)
  | iconst z =>
    exact s_iconst C hd (hk _ _ _ _ he)
  | bipush z =>
    exact s_bipush C hd (hk _ _ _ _ he)
  | sipush z =>
    exact s_sipush C hd (hk _ _ _ _ he)
  | lconst z =>
    exact s_lconst C hd (hk _ _ _ _ he)
  | ldc ix =>
    simp only [aX1] at he
    have hc' : (bif Nat.beq a 4294967296 then Nat.beq (aown Γ) 10 && Nat.beq ix 114 else zkcp.any (fun q => Nat.beq q.1 (aown Γ) && Nat.beq q.2.1 ix && Nat.beq q.2.2.1 a)) = true := hc
    cases hb : Nat.beq a 4294967296 with
    | true =>
      rw [hb] at he hc'
      simp only [cond_true, Bool.and_eq_true] at he hc'
      have e2 := Nat.eq_of_beq_eq_true hc'.2
      subst e2
      exact s_ldcS (Nat.eq_of_beq_eq_true hc'.1) C hd (hk _ _ _ _ he)
    | false =>
      rw [hb] at he hc'
      simp only [cond_false] at he hc'
      exact s_ldc (z_cst hc') C hd (hk _ _ _ _ he)
  | ldc_w ix =>
    exact s_ldcw (z_cst hc) C hd (hk _ _ _ _ he)
  | ldc2_w ix =>
    exact s_ldc2 (z_cstl hc) C hd (hk _ _ _ _ he)
  | iload_n z =>
    simp only [aX1] at he
    split at he
    · rename_i x hg
      exact s_iloadn hg C hd (hk _ _ _ _ he)
    · cases he
  | iload z =>
    simp only [aX1] at he
    split at he
    · rename_i x hg
      exact s_iload hg C hd (hk _ _ _ _ he)
    · cases he
  | lload_n z =>
    simp only [aX1] at he
    split at he
    · rename_i x hg
      exact s_lloadn hg C hd (hk _ _ _ _ he)
    · cases he
  | lload z =>
    simp only [aX1] at he
    split at he
    · rename_i x hg
      exact s_lload hg C hd (hk _ _ _ _ he)
    · cases he
  | aload_n z =>
    simp only [aX1] at he
    split at he
    · rename_i x hg
      exact s_aloadn_ref hg C hd (hk _ _ _ _ he)
    · rename_i x hg
      exact s_aloadn_ext hg C hd (hk _ _ _ _ he)
    · rename_i hg
      exact s_aloadn_nul hg C hd (hk _ _ _ _ he)
    · cases he
  | aload z =>
    simp only [aX1] at he
    split at he
    · rename_i x hg
      exact s_aload_ref hg C hd (hk _ _ _ _ he)
    · rename_i x hg
      exact s_aload_ext hg C hd (hk _ _ _ _ he)
    · rename_i hg
      exact s_aload_nul hg C hd (hk _ _ _ _ he)
    · cases he
  | istore_n z =>
    obtain ⟨x, r, rfl, he⟩ := tI_some he
    obtain ⟨hz, he⟩ := abif he
    exact s_istoren (Nat.le_of_ble_eq_true hz) C hd (hk _ _ _ _ he)
  | istore z =>
    obtain ⟨x, r, rfl, he⟩ := tI_some he
    obtain ⟨hz, he⟩ := abif he
    exact s_istore (Nat.le_of_ble_eq_true hz) C hd (hk _ _ _ _ he)
  | lstore_n z =>
    obtain ⟨x, r, rfl, he⟩ := tJ_some he
    obtain ⟨hz, he⟩ := abif he
    exact s_lstoren (Nat.le_of_ble_eq_true hz) C hd (hk _ _ _ _ he)
  | lstore z =>
    obtain ⟨x, r, rfl, he⟩ := tJ_some he
    obtain ⟨hz, he⟩ := abif he
    exact s_lstore (Nat.le_of_ble_eq_true hz) C hd (hk _ _ _ _ he)
  | astore_n z =>
    simp only [aX1] at he
    split at he
    · obtain ⟨hz, he⟩ := abif he
      exact s_astoren (Nat.le_of_ble_eq_true hz) C hd (hk _ _ _ _ he)
    · obtain ⟨hz, he⟩ := abif he
      exact s_astoreNn (Nat.le_of_ble_eq_true hz) C hd (hk _ _ _ _ he)
    · cases he
  | astore z =>
    simp only [aX1] at he
    split at he
    · obtain ⟨hz, he⟩ := abif he
      exact s_astore (Nat.le_of_ble_eq_true hz) C hd (hk _ _ _ _ he)
    · obtain ⟨hz, he⟩ := abif he
      exact s_astoreN (Nat.le_of_ble_eq_true hz) C hd (hk _ _ _ _ he)
    · cases he
  | iinc z c =>
    simp only [aX1] at he
    split at he
    · rename_i x hg
      exact s_iinc hg C hd (hk _ _ _ _ he)
    · cases he
  | iadd =>
    obtain ⟨x, y, r, rfl, he⟩ := tII_some he
    exact s_iadd C hd (hk _ _ _ _ he)
  | isub =>
    obtain ⟨x, y, r, rfl, he⟩ := tII_some he
    exact s_isub C hd (hk _ _ _ _ he)
  | imul =>
    obtain ⟨x, y, r, rfl, he⟩ := tII_some he
    exact s_imul C hd (hk _ _ _ _ he)
  | iand =>
    obtain ⟨x, y, r, rfl, he⟩ := tII_some he
    exact s_iand C hd (hk _ _ _ _ he)
  | ior =>
    obtain ⟨x, y, r, rfl, he⟩ := tII_some he
    exact s_ior C hd (hk _ _ _ _ he)
  | ixor =>
    obtain ⟨x, y, r, rfl, he⟩ := tII_some he
    exact s_ixor C hd (hk _ _ _ _ he)
  | ishl =>
    obtain ⟨x, y, r, rfl, he⟩ := tII_some he
    exact s_ishl C hd (hk _ _ _ _ he)
  | ishr =>
    obtain ⟨x, y, r, rfl, he⟩ := tII_some he
    exact s_ishr C hd (hk _ _ _ _ he)
  | iushr =>
    obtain ⟨x, y, r, rfl, he⟩ := tII_some he
    exact s_iushr C hd (hk _ _ _ _ he)
  | idiv =>
    obtain ⟨x, y, r, rfl, he⟩ := tII_some he
    obtain ⟨hn, he⟩ := anite he
    exact s_idiv hn C hd (hk _ _ _ _ he)
  | irem =>
    obtain ⟨x, y, r, rfl, he⟩ := tII_some he
    obtain ⟨hn, he⟩ := anite he
    exact s_irem hn C hd (hk _ _ _ _ he)
  | ladd =>
    obtain ⟨x, y, r, rfl, he⟩ := tJJ_some he
    exact s_ladd C hd (hk _ _ _ _ he)
  | lsub =>
    obtain ⟨x, y, r, rfl, he⟩ := tJJ_some he
    exact s_lsub C hd (hk _ _ _ _ he)
  | lmul =>
    obtain ⟨x, y, r, rfl, he⟩ := tJJ_some he
    exact s_lmul C hd (hk _ _ _ _ he)
  | land =>
    obtain ⟨x, y, r, rfl, he⟩ := tJJ_some he
    exact s_land C hd (hk _ _ _ _ he)
  | lor =>
    obtain ⟨x, y, r, rfl, he⟩ := tJJ_some he
    exact s_lor C hd (hk _ _ _ _ he)
  | lcmp =>
    obtain ⟨x, y, r, rfl, he⟩ := tJJ_some he
    exact s_lcmp C hd (hk _ _ _ _ he)
  | ldiv =>
    obtain ⟨x, y, r, rfl, he⟩ := tJJ_some he
    obtain ⟨hn, he⟩ := anite he
    exact s_ldiv hn C hd (hk _ _ _ _ he)
  | lrem =>
    obtain ⟨x, y, r, rfl, he⟩ := tJJ_some he
    obtain ⟨hn, he⟩ := anite he
    exact s_lrem hn C hd (hk _ _ _ _ he)
  | lshl =>
    obtain ⟨x, y, r, rfl, he⟩ := tJI_some he
    exact s_lshl C hd (hk _ _ _ _ he)
  | ineg =>
    obtain ⟨x, r, rfl, he⟩ := tI_some he
    exact s_ineg C hd (hk _ _ _ _ he)
  | i2l =>
    obtain ⟨x, r, rfl, he⟩ := tI_some he
    exact s_i2l C hd (hk _ _ _ _ he)
  | i2b =>
    obtain ⟨x, r, rfl, he⟩ := tI_some he
    exact s_i2b C hd (hk _ _ _ _ he)
  | i2c =>
    obtain ⟨x, r, rfl, he⟩ := tI_some he
    exact s_i2c C hd (hk _ _ _ _ he)
  | i2s =>
    obtain ⟨x, r, rfl, he⟩ := tI_some he
    exact s_i2s C hd (hk _ _ _ _ he)
  | l2i =>
    obtain ⟨x, r, rfl, he⟩ := tJ_some he
    exact s_l2i C hd (hk _ _ _ _ he)
  | dup =>
    simp only [aX1] at he
    split at he
    · obtain ⟨h1, he⟩ := abif he
      exact s_dup h1 C hd (hk _ _ _ _ he)
    · cases he
  | pop =>
    simp only [aX1] at he
    split at he
    · obtain ⟨h1, he⟩ := abif he
      exact s_pop h1 C hd (hk _ _ _ _ he)
    · cases he
  | pop2 =>
    simp only [aX1] at he
    split at he
    · exact s_pop2 C hd (hk _ _ _ _ he)
    · cases he
  | dup2 =>
    simp only [aX1] at he
    split at he
    · obtain ⟨h1, he⟩ := abif he
      obtain ⟨h1, h2⟩ := (Bool.and_eq_true _ _).mp h1
      exact s_dup2 h1 h2 C hd (hk _ _ _ _ he)
    · cases he
  | dup_x1 =>
    simp only [aX1] at he
    split at he
    · obtain ⟨h1, he⟩ := abif he
      obtain ⟨h1, h2⟩ := (Bool.and_eq_true _ _).mp h1
      exact s_dup_x1 h1 h2 C hd (hk _ _ _ _ he)
    · cases he
  | goto off =>
    exact s_goto (of_decide_eq_true hc) C hd (hk _ _ _ _ he)
  | ifCond c off =>
    obtain ⟨x, r, rfl, he⟩ := tI_some he
    cases c with
    | eq =>
      rcases aite he with ⟨q, he⟩ | ⟨q, he⟩
      · exact s_if_eq (of_decide_eq_true hc) C hd (fun _ => hk _ _ _ _ he) (fun z => absurd q z)
      · exact s_if_eq (of_decide_eq_true hc) C hd (fun z => absurd z q) (fun _ => hk _ _ _ _ he)
    | ne =>
      rcases aite he with ⟨q, he⟩ | ⟨q, he⟩
      · exact s_if_ne (of_decide_eq_true hc) C hd (fun z => absurd q z) (fun _ => hk _ _ _ _ he)
      · exact s_if_ne (of_decide_eq_true hc) C hd (fun _ => hk _ _ _ _ he) (fun z => absurd z q)
    | lt =>
      rcases aite he with ⟨q, he⟩ | ⟨q, he⟩
      · exact s_if_lt (of_decide_eq_true hc) C hd (fun _ => hk _ _ _ _ he) (fun z => absurd q z)
      · exact s_if_lt (of_decide_eq_true hc) C hd (fun z => absurd z q) (fun _ => hk _ _ _ _ he)
    | ge =>
      rcases aite he with ⟨q, he⟩ | ⟨q, he⟩
      · exact s_if_ge (of_decide_eq_true hc) C hd (fun _ => hk _ _ _ _ he) (fun z => absurd q z)
      · exact s_if_ge (of_decide_eq_true hc) C hd (fun z => absurd z q) (fun _ => hk _ _ _ _ he)
    | gt =>
      rcases aite he with ⟨q, he⟩ | ⟨q, he⟩
      · exact s_if_gt (of_decide_eq_true hc) C hd (fun _ => hk _ _ _ _ he) (fun z => absurd q z)
      · exact s_if_gt (of_decide_eq_true hc) C hd (fun z => absurd z q) (fun _ => hk _ _ _ _ he)
    | le =>
      rcases aite he with ⟨q, he⟩ | ⟨q, he⟩
      · exact s_if_le (of_decide_eq_true hc) C hd (fun _ => hk _ _ _ _ he) (fun z => absurd q z)
      · exact s_if_le (of_decide_eq_true hc) C hd (fun z => absurd z q) (fun _ => hk _ _ _ _ he)
  | if_icmp c off =>
    obtain ⟨x, y, r, rfl, he⟩ := tII_some he
    cases c with
    | eq =>
      rcases aite he with ⟨q, he⟩ | ⟨q, he⟩
      · exact s_icmp_eq (of_decide_eq_true hc) C hd (fun _ => hk _ _ _ _ he) (fun z => absurd q z)
      · exact s_icmp_eq (of_decide_eq_true hc) C hd (fun z => absurd z q) (fun _ => hk _ _ _ _ he)
    | ne =>
      rcases aite he with ⟨q, he⟩ | ⟨q, he⟩
      · exact s_icmp_ne (of_decide_eq_true hc) C hd (fun z => absurd q z) (fun _ => hk _ _ _ _ he)
      · exact s_icmp_ne (of_decide_eq_true hc) C hd (fun _ => hk _ _ _ _ he) (fun z => absurd z q)
    | lt =>
      rcases aite he with ⟨q, he⟩ | ⟨q, he⟩
      · exact s_icmp_lt (of_decide_eq_true hc) C hd (fun _ => hk _ _ _ _ he) (fun z => absurd q z)
      · exact s_icmp_lt (of_decide_eq_true hc) C hd (fun z => absurd z q) (fun _ => hk _ _ _ _ he)
    | ge =>
      rcases aite he with ⟨q, he⟩ | ⟨q, he⟩
      · exact s_icmp_ge (of_decide_eq_true hc) C hd (fun _ => hk _ _ _ _ he) (fun z => absurd q z)
      · exact s_icmp_ge (of_decide_eq_true hc) C hd (fun z => absurd z q) (fun _ => hk _ _ _ _ he)
    | gt =>
      rcases aite he with ⟨q, he⟩ | ⟨q, he⟩
      · exact s_icmp_gt (of_decide_eq_true hc) C hd (fun _ => hk _ _ _ _ he) (fun z => absurd q z)
      · exact s_icmp_gt (of_decide_eq_true hc) C hd (fun z => absurd z q) (fun _ => hk _ _ _ _ he)
    | le =>
      rcases aite he with ⟨q, he⟩ | ⟨q, he⟩
      · exact s_icmp_le (of_decide_eq_true hc) C hd (fun _ => hk _ _ _ _ he) (fun z => absurd q z)
      · exact s_icmp_le (of_decide_eq_true hc) C hd (fun z => absurd z q) (fun _ => hk _ _ _ _ he)
  | ifnull off =>
    simp only [aX1] at he
    split at he
    · exact s_ifnull C hd (hk _ _ _ _ he)
    · exact s_ifnullN (of_decide_eq_true hc) C hd (hk _ _ _ _ he)
    · cases he
  | ifnonnull off =>
    simp only [aX1] at he
    split at he
    · exact s_ifnonnull (of_decide_eq_true hc) C hd (hk _ _ _ _ he)
    · exact s_ifnonnullN C hd (hk _ _ _ _ he)
    · cases he
  | tableswitch d lo hi offs =>
    obtain ⟨x, r, rfl, he⟩ := tI_some he
    simp only [zchkI, Bool.and_eq_true, decide_eq_true_eq, List.all_eq_true] at hc
    obtain ⟨⟨⟨⟨c1, c2⟩, c3⟩, c4⟩, c5⟩ := hc
    rcases asw_some _ _ c1 (by omega) he with ⟨i, o, g1, g2, g3⟩ | ⟨g1, g2⟩
    · have ho := c5 o (List.mem_of_getElem? g1)
      have hil : i < offs.toList.length := (List.getElem?_eq_some_iff.mp g1).1
      exact s_tableIn (by omega) (by omega) (by rw [show (x.toInt - lo).toNat = i by omega, ← Array.getElem?_toList]; exact g1) (show (pc : Int) + o = (((pc : Int) + o).toNat : Int) by omega) C hd (hk _ _ _ _ g3)
    · exact s_tableOut (by omega) (show (pc : Int) + d = (((pc : Int) + d).toNat : Int) by omega) C hd (hk _ _ _ _ g2)
  | lookupswitch d ps =>
    obtain ⟨x, r, rfl, he⟩ := tI_some he
    simp only [zchkI, Bool.and_eq_true, decide_eq_true_eq] at hc
    obtain ⟨⟨c1, c2⟩, c3⟩ := hc
    have c2 := List.all_eq_true.mp c2
    simp only [Bool.and_eq_true, decide_eq_true_eq] at c2
    have g := alw_some _ (fun q hq => ⟨(c2 q hq).1.2, (c2 q hq).2⟩) he
    have hnn : 0 ≤ (pc : Int) + Op.lookupswitch.offset ps.toList d x.toInt := alw_nn pc _ d _ c1 (fun q hq => (c2 q hq).1.1)
    exact s_lookup c3 rfl (show (pc : Int) + Op.lookupswitch.offset ps.toList d x.toInt = (((pc : Int) + Op.lookupswitch.offset ps.toList d x.toInt).toNat : Int) by omega) C hd (hk _ _ _ _ g)
  | getfield ix =>
    simp only [aX1] at he
    split at he
    · obtain ⟨fs, ho, he⟩ := aobj_some he
      split at he
      · rename_i v hv
        exact s_get ho (z_fld hc) hv C hd (hk _ _ _ _ he)
      · cases he
    · cases he
  | putfield ix =>
    simp only [aX1] at he
    split at he
    · obtain ⟨fs, ho, he⟩ := aobj_some he
      obtain ⟨hq, he⟩ := abif he
      obtain ⟨hq, hlt⟩ := (Bool.and_eq_true _ _).mp hq
      obtain ⟨hq, hok⟩ := (Bool.and_eq_true _ _).mp hq
      have hlt := Nat.le_of_ble_eq_true hlt
      cases hfin : (zT a b).2.2.2 with
      | false => exact s_put ho (z_fld hc) hfin hok hlt C hd (hk _ _ _ _ he)
      | true =>
        rw [hfin] at hq
        obtain ⟨q1, q2⟩ := (Bool.and_eq_true _ _).mp (show (Nat.beq (akind Γ) 2 && Nat.beq (aown Γ) a) = true from hq)
        exact s_putF ho (z_fld hc) hfin (Nat.eq_of_beq_eq_true q1) (Nat.eq_of_beq_eq_true q2) hok hlt C hd (hk _ _ _ _ he)
    · cases he
  | getstatic ix =>
    obtain ⟨c1, c2⟩ := (Bool.and_eq_true _ _).mp hc
    have c2 := Nat.eq_of_beq_eq_true c2
    subst c2
    exact s_gets (Nat.eq_of_beq_eq_true c1) C hd (hk _ _ _ _ he)
  | arraylength =>
    simp only [aX1] at he
    split at he
    · split at he
      · rename_i n f ho
        exact s_alen ho C hd (hk _ _ _ _ he)
      · rename_i n f ho
        exact s_alen1 ho C hd (hk _ _ _ _ he)
      · cases he
    · split at he
      · rename_i n f hX
        exact s_xlen hX C hd (hk _ _ _ _ he)
      · cases he
    · cases he
  | iaload =>
    simp only [aX1] at he
    split at he
    · obtain ⟨t, n, g, ho, he⟩ := aarI_some he
      obtain ⟨ht, he⟩ := abif he
      have ht := Nat.eq_of_beq_eq_true ht
      subst ht
      obtain ⟨hj, he⟩ := anite he
      exact s_iald ho hj C hd (hk _ _ _ _ he)
    · split at he
      · rename_i n f hX
        obtain ⟨hj, he⟩ := anite he
        exact s_xld hX hj C hd (hk _ _ _ _ he)
      · cases he
    · cases he
  | baload =>
    simp only [aX1] at he
    split at he
    · obtain ⟨t, n, g, ho, he⟩ := aarI_some he
      obtain ⟨ht, he1⟩ := abif he
      obtain ⟨hj, he2⟩ := anite he1
      clear he he1
      rcases (Bool.or_eq_true _ _).mp ht with ht | ht
      · have ht := Nat.eq_of_beq_eq_true ht
        subst ht
        exact s_zald ho hj C hd (hk _ _ _ _ he2)
      · have ht := Nat.eq_of_beq_eq_true ht
        subst ht
        exact s_bald ho hj C hd (hk _ _ _ _ he2)
    · cases he
  | laload =>
    simp only [aX1] at he
    split at he
    · obtain ⟨n, g, ho, he⟩ := aarJ_some he
      obtain ⟨hj, he⟩ := anite he
      exact s_lald ho hj C hd (hk _ _ _ _ he)
    · cases he
  | aaload =>
    simp only [aX1] at he
    split at he
    · obtain ⟨t, n, g, ho, he⟩ := aarR_some he
      obtain ⟨ht, he1⟩ := abif he
      obtain ⟨hj, he2⟩ := anite he1
      clear he he1
      rcases (Bool.or_eq_true _ _).mp ht with ht | ht
      · have ht := Nat.eq_of_beq_eq_true ht
        subst ht
        exact s_aald4 ho hj C hd (hk _ _ _ _ he2)
      · have ht := Nat.eq_of_beq_eq_true ht
        subst ht
        exact s_aald5 ho hj C hd (hk _ _ _ _ he2)
    · cases he
  | iastore =>
    simp only [aX1] at he
    split at he
    · obtain ⟨t, n, g, ho, he⟩ := aarI_some he
      obtain ⟨ht, he⟩ := abif he
      have ht := Nat.eq_of_beq_eq_true ht
      subst ht
      obtain ⟨hj, he⟩ := anite he
      exact s_iast ho hj C hd (hk _ _ _ _ he)
    · cases he
  | bastore =>
    simp only [aX1] at he
    split at he
    · obtain ⟨t, n, g, ho, he⟩ := aarI_some he
      split at he
      · obtain ⟨hj, he⟩ := anite he
        exact s_zast ho hj C hd (hk _ _ _ _ he)
      · obtain ⟨hj, he⟩ := anite he
        exact s_bast ho hj C hd (hk _ _ _ _ he)
      · cases he
    · cases he
  | lastore =>
    simp only [aX1] at he
    split at he
    · obtain ⟨n, g, ho, he⟩ := aarJ_some he
      obtain ⟨hj, he⟩ := anite he
      exact s_last ho hj C hd (hk _ _ _ _ he)
    · cases he
  | aastore =>
    simp only [aX1] at he
    split at he
    · obtain ⟨t, n, g, ho, he⟩ := aarR_some he
      cases h4 : Nat.beq t 4 with
      | true =>
        rw [h4] at he
        simp only [cond_true] at he
        have ht := Nat.eq_of_beq_eq_true h4
        subst ht
        obtain ⟨fs, hq, he⟩ := aobj_some he
        obtain ⟨hj, he⟩ := anite he
        exact s_aast ho hq hj C hd (hk _ _ _ _ he)
      | false =>
        rw [h4] at he
        simp only [cond_false] at he
        obtain ⟨ht, he⟩ := abif he
        have ht := Nat.eq_of_beq_eq_true ht
        subst ht
        obtain ⟨t', n', g', hq, he⟩ := aarI_some he
        obtain ⟨ht', he⟩ := abif he
        have ht' := Nat.eq_of_beq_eq_true ht'
        subst ht'
        obtain ⟨hj, he⟩ := anite he
        exact s_aast5 ho hq hj C hd (hk _ _ _ _ he)
    · cases he
  | new ix =>
    obtain ⟨ha, hcl⟩ := z_cls hc
    exact s_new ha hcl (z_ini ha).1 (z_ini ha).2 (hR _ _ _ _ he) C hd (hk _ _ _ _ he)
  | newarray t =>
    obtain ⟨x, r, rfl, he⟩ := tI_some he
    obtain ⟨hx0, he⟩ := anite he
    have ht := of_decide_eq_true hc
    exact s_newa ht hx0 (z_arr ht) (hR _ _ _ _ he) C hd (hk _ _ _ _ he)
  | anewarray ix =>
    obtain ⟨x, r, rfl, he⟩ := tI_some he
    obtain ⟨hx0, he⟩ := anite he
    rcases (Bool.or_eq_true _ _).mp hc with hc | hc
    · obtain ⟨hc, c3⟩ := (Bool.and_eq_true _ _).mp hc
      obtain ⟨c1, c2⟩ := (Bool.and_eq_true _ _).mp hc
      have c1 := Nat.eq_of_beq_eq_true c1
      have c2 := Nat.eq_of_beq_eq_true c2
      have c3 := Nat.eq_of_beq_eq_true c3
      dsimp only at c1
      subst c1
      subst c3
      exact s_newq hx0 (by rw [c2]; exact z_q4) (hR _ _ _ _ he) C hd (hk _ _ _ _ he)
    · obtain ⟨hc, c3⟩ := (Bool.and_eq_true _ _).mp hc
      obtain ⟨c1, c2⟩ := (Bool.and_eq_true _ _).mp hc
      have c1 := Nat.eq_of_beq_eq_true c1
      have c2 := Nat.eq_of_beq_eq_true c2
      have c3 := Nat.eq_of_beq_eq_true c3
      dsimp only at c1
      subst c1
      subst c3
      exact s_newA hx0 (by rw [c2]; exact z_q5) (hR _ _ _ _ he) C hd (hk _ _ _ _ he)
  | _ => exact absurd he (by simp [aX1])

-- ===== every instruction that is neither a call nor a return =====
theorem x_all {X : aX} {Q : cQ} {zs : Int} {lv : Nat} {top : Bool} {M : aM} {k : Nat → List cW → List cW → cK → Option (List cEx)} (hX : X 0 = some (8, zab)) (hk : dSnd X Q zs lv top M k) {pc len a b : Nat} (ins : Instr) : dOk X Q zs lv top M k pc ins len a b := by
  cases ins
  case aconst_null => exact x_aconst_null hk
  case iconst => exact x_iconst hk
  case bipush => exact x_bipush hk
  case sipush => exact x_sipush hk
  case lconst => exact x_lconst hk
  case ldc => exact x_ldc hk
  case ldc_w => exact x_ldc_w hk
  case ldc2_w => exact x_ldc2_w hk
  case iload_n => exact x_iload_n hk
  case iload => exact x_iload hk
  case lload_n => exact x_lload_n hk
  case lload => exact x_lload hk
  case aload_n => exact x_aload_n hk
  case aload => exact x_aload hk
  case istore_n => exact x_istore_n hk
  case istore => exact x_istore hk
  case lstore_n => exact x_lstore_n hk
  case lstore => exact x_lstore hk
  case astore_n => exact x_astore_n hk
  case astore => exact x_astore hk
  case iinc => exact x_iinc hk
  case iadd => exact x_iadd hk
  case isub => exact x_isub hk
  case imul => exact x_imul hk
  case iand => exact x_iand hk
  case ior => exact x_ior hk
  case ixor => exact x_ixor hk
  case ishl => exact x_ishl hk
  case ishr => exact x_ishr hk
  case iushr => exact x_iushr hk
  case idiv => exact x_idiv hk
  case irem => exact x_irem hk
  case ineg => exact x_ineg hk
  case ladd => exact x_ladd hk
  case lsub => exact x_lsub hk
  case lmul => exact x_lmul hk
  case ldiv => exact x_ldiv hk
  case lrem => exact x_lrem hk
  case i2l => exact x_i2l hk
  case l2i => exact x_l2i hk
  case i2b => exact x_i2b hk
  case i2s => exact x_i2s hk
  case i2c => exact x_i2c hk
  case dup => exact x_dup hk
  case dup2 => exact x_dup2 hk
  case pop => exact x_pop hk
  case goto => exact x_goto hk
  case ifCond => exact x_ifCond hk
  case if_icmp => exact x_if_icmp hk
  case ifnull => exact x_ifnull hk
  case ifnonnull => exact x_ifnonnull hk
  case tableswitch => exact x_tableswitch hk
  case lookupswitch => exact x_lookupswitch hk
  case getfield => exact x_getfield hk
  case putfield => exact x_putfield hk
  case getstatic => exact x_getstatic hk
  case arraylength => exact x_arraylength hk
  case iaload => exact x_iaload hX hk
  case baload => exact x_baload hk
  case laload => exact x_laload hk
  case aaload => exact x_aaload hk
  case iastore => exact x_iastore hk
  case bastore => exact x_bastore hk
  case lastore => exact x_lastore hk
  all_goals
    intro L st K es l sv h σ ρ rh hI hK hL hS hrk hf he
    have he : (none : Option (List cEx)) = some es := he
    cases he
-- ===== a call's locals =====
theorem w_cat {ρ : List Int} {rh : List Nat} {w : cW} {v : Value} (h : dW ρ rh w v) : v.category = (bif Nat.beq w.1 2 then 2 else 1) := by
  unfold dW at h
  split at h
  · rename_i e; obtain ⟨_, _, rfl, _⟩ := h; rw [e]; rfl
  · rename_i e; obtain ⟨_, _, rfl, _⟩ := h; rw [e]; rfl
  · rename_i e; obtain ⟨_, rfl, _⟩ := h; rw [e]; rfl
  · rename_i e; subst h; rw [e]; rfl
  · rename_i e; subst h; rw [e]; rfl
  · rename_i e; rcases h with rfl | ⟨_, rfl, _⟩ <;> rw [e] <;> rfl
  · rename_i e; subst h; rw [e]; rfl
  · exact h.elim
theorem cws_s {ρ : List Int} {rh : List Nat} : ∀ {ws : List cW} {vs : List Value}, dS ρ rh ws vs → aws vs = cws ws
  | [], [], _ => rfl
  | w :: r, v :: s, h => by
    have e := w_cat h.1
    have ih := cws_s h.2
    simp only [aws, cws, e, ih]
  | [], _ :: _, h => h.elim
  | _ :: _, [], h => h.elim
theorem dL_cons {ρ : List Int} {rh : List Nat} {L : List cW} {l : aL} (h : dL ρ rh L l) {w : cW} {o : Option Value} (hw : w.1 = 0 ∨ ∃ v, o = some v ∧ dW ρ rh w v) : dL ρ rh (w :: L) (o :: l) := by
  refine ⟨by simp [h.1], fun i x e => ?_⟩
  cases i with
  | zero =>
    simp only [List.getElem?_cons_zero, Option.some.injEq] at e
    subst e
    rcases hw with q | ⟨v, rfl, q⟩
    · exact Or.inl q
    · exact Or.inr ⟨v, by rw [aG_get]; rfl, q⟩
  | succ i =>
    rw [List.getElem?_cons_succ] at e
    rcases h.2 i x e with q | ⟨v, q1, q2⟩
    · exact Or.inl q
    · refine Or.inr ⟨v, ?_, q2⟩
      rw [aG_get] at q1 ⊢
      rw [List.getElem?_cons_succ]
      exact q1
theorem dL_rep {ρ : List Int} {rh : List Nat} (n : Nat) : dL ρ rh (List.replicate n (0, 0, 0)) (List.replicate n none) := by
  refine ⟨by simp, fun i w e => Or.inl ?_⟩
  rw [List.getElem?_replicate] at e
  split at e
  · cases e; rfl
  · cases e
theorem dL_entry {ρ : List Int} {rh : List Nat} : ∀ {ws : List cW} {vs : List Value} (n : Nat), dS ρ rh ws vs → dL ρ rh (cEn n ws) (aE n vs)
  | [], [], n, _ => dL_rep n
  | w :: r, v :: s, n, h => by
    have e := w_cat h.1
    unfold cEn aE
    rw [e]
    cases q : Nat.beq w.1 2 with
    | true =>
      simp only [cond_true, Nat.beq_refl]
      exact dL_cons (dL_cons (dL_entry (n - 2) h.2) (Or.inl rfl)) (Or.inr ⟨v, rfl, h.1⟩)
    | false =>
      simp only [cond_false, show Nat.beq 1 2 = false from rfl]
      exact dL_cons (dL_entry (n - 1) h.2) (Or.inr ⟨v, rfl, h.1⟩)
  | [], _ :: _, _, h => h.elim
  | _ :: _, [], _, h => h.elim
theorem dS_len {ρ : List Int} {rh : List Nat} : ∀ {ws : List cW} {vs : List Value}, dS ρ rh ws vs → vs.length = ws.length
  | [], [], _ => rfl
  | _ :: _, _ :: _, h => by simp [dS_len h.2]
  | [], _ :: _, h => h.elim
  | _ :: _, [], h => h.elim
theorem dS_app {ρ : List Int} {rh : List Nat} : ∀ {a c : List cW} {b d : List Value}, dS ρ rh a b → dS ρ rh c d → dS ρ rh (a ++ c) (b ++ d)
  | [], _, [], _, _, h => h
  | _ :: _, _, _ :: _, _, g, h => ⟨g.1, dS_app g.2 h⟩
  | [], _, _ :: _, _, g, _ => g.elim
  | _ :: _, _, [], _, g, _ => g.elim
theorem dS_take {ρ : List Int} {rh : List Nat} : ∀ {ws : List cW} {vs : List Value} (n : Nat), dS ρ rh ws vs → dS ρ rh (ws.take n) (vs.take n) ∧ dS ρ rh (ws.drop n) (vs.drop n)
  | ws, vs, 0, h => ⟨trivial, h⟩
  | [], [], _ + 1, _ => ⟨trivial, trivial⟩
  | _ :: _, _ :: _, n + 1, h => by
    obtain ⟨a, b⟩ := dS_take n h.2
    exact ⟨⟨h.1, a⟩, b⟩
  | [], _ :: _, _ + 1, h => h.elim
  | _ :: _, [], _ + 1, h => h.elim
theorem dS_rev {ρ : List Int} {rh : List Nat} : ∀ {ws : List cW} {vs : List Value}, dS ρ rh ws vs → dS ρ rh ws.reverse vs.reverse
  | [], [], _ => trivial
  | _ :: _, _ :: _, h => by
    rw [List.reverse_cons, List.reverse_cons]
    exact dS_app (dS_rev h.2) ⟨h.1, trivial⟩
  | [], _ :: _, h => h.elim
  | _ :: _, [], h => h.elim

-- ===== the tables are the Statement's: each word at its place, each instruction as it is decoded (by program) =====
def zW : List Cond := lw_tbl.filter goodWord
theorem zW_in : ∀ w ∈ zW, w ∈ lw_tbl := fun w h => (List.mem_filter.mp h).1
theorem zW_of {w : Cond} (h : w ∈ lw_tbl) (g : goodWord w = true) : w ∈ zW := List.mem_filter.mpr ⟨h, g⟩
theorem zW_good : ∀ w ∈ zW, goodWord w = true := fun w h => (List.mem_filter.mp h).2
theorem zsub_1 {w : Cond} (h : w ∈ tables_1_1) : w ∈ lw_tbl := List.mem_append_right _ (show w ∈ tables_1 from List.mem_append_left _ h)
theorem zsub_2 {w : Cond} (h : w ∈ tables_1_2) : w ∈ lw_tbl := List.mem_append_right _ (show w ∈ tables_1 from List.mem_append_right _ (List.mem_append_left _ h))
theorem zsub_3 {w : Cond} (h : w ∈ tables_1_3) : w ∈ lw_tbl := List.mem_append_right _ (show w ∈ tables_1 from List.mem_append_right _ (List.mem_append_right _ (List.mem_append_left _ h)))
theorem zsub_4 {w : Cond} (h : w ∈ tables_1_4) : w ∈ lw_tbl := List.mem_append_right _ (show w ∈ tables_1 from List.mem_append_right _ (List.mem_append_right _ (List.mem_append_right _ (List.mem_append_left _ h))))
theorem zsub_5 {w : Cond} (h : w ∈ tables_1_5) : w ∈ lw_tbl := List.mem_append_right _ (show w ∈ tables_1 from List.mem_append_right _ (List.mem_append_right _ (List.mem_append_right _ (List.mem_append_right _ (List.mem_append_left _ h)))))
theorem zsub_6 {w : Cond} (h : w ∈ tables_1_6) : w ∈ lw_tbl := List.mem_append_right _ (show w ∈ tables_1 from List.mem_append_right _ (List.mem_append_right _ (List.mem_append_right _ (List.mem_append_right _ (List.mem_append_right _ (List.mem_append_left _ h))))))
theorem zsub_7 {w : Cond} (h : w ∈ tables_1_7) : w ∈ lw_tbl := List.mem_append_right _ (show w ∈ tables_1 from List.mem_append_right _ (List.mem_append_right _ (List.mem_append_right _ (List.mem_append_right _ (List.mem_append_right _ (List.mem_append_right _ (List.mem_append_left _ h)))))))
theorem zsub_8 {w : Cond} (h : w ∈ tables_1_8) : w ∈ lw_tbl := List.mem_append_right _ (show w ∈ tables_1 from List.mem_append_right _ (List.mem_append_right _ (List.mem_append_right _ (List.mem_append_right _ (List.mem_append_right _ (List.mem_append_right _ (List.mem_append_right _ (List.mem_append_left _ h))))))))
theorem zsub_9 {w : Cond} (h : w ∈ tables_1_9) : w ∈ lw_tbl := List.mem_append_right _ (show w ∈ tables_1 from List.mem_append_right _ (List.mem_append_right _ (List.mem_append_right _ (List.mem_append_right _ (List.mem_append_right _ (List.mem_append_right _ (List.mem_append_right _ (List.mem_append_right _ (List.mem_append_left _ h)))))))))
theorem zsub_10 {w : Cond} (h : w ∈ tables_1_10) : w ∈ lw_tbl := List.mem_append_right _ (show w ∈ tables_1 from List.mem_append_right _ (List.mem_append_right _ (List.mem_append_right _ (List.mem_append_right _ (List.mem_append_right _ (List.mem_append_right _ (List.mem_append_right _ (List.mem_append_right _ (List.mem_append_right _ (h))))))))))
def zLk (p : Nat) : Option Cond := bif Nat.blt p 119 then (k2_sels lw_privs)[p]? else (zCh ((p - 119) / 240))[(p - 119) % 240]?
theorem zLk_mem {p : Nat} {w : Cond} (h : zLk p = some w) : w ∈ lw_tbl := by
  cases e : Nat.blt p 119 with
  | true =>
    have h2 : (k2_sels lw_privs)[p]? = some w := by
      unfold zLk at h
      rw [e] at h
      exact h
    exact List.mem_append_left _ (List.mem_of_getElem? h2)
  | false =>
    have h2 : (zCh ((p - 119) / 240))[(p - 119) % 240]? = some w := by
      unfold zLk at h
      rw [e] at h
      exact h
    exact List.mem_append_right _ (zt_in _ _ h2)
def zTab (p : Nat) (w : Cond) : Bool := decide (zLk p = some w) && goodWord w
theorem zTab_mem {p : Nat} {w : Cond} (h : zTab p w = true) : w ∈ zW := by
  have h2 := (Bool.and_eq_true _ _).mp h
  exact zW_of (zLk_mem (of_decide_eq_true h2.1)) h2.2
def zwF (o ix a b : Nat) : Cond := .fieldLink (zCN o) ix (zT a b).1 (zT a b).2.1 (zT a b).2.2.1
theorem zfcp_ok : zfcp.all (fun q => decide (q.2.2.1 < 13) && decide (q.2.2.2.1 < zN q.2.2.1) && zTab (q.2.2.2.2 + 119) (zwF q.1 q.2.1 q.2.2.1 q.2.2.2.1)) = true := by decide +kernel
def zmm (a : Nat) : Option MethodName := match a with
  | 1010 => some Lib.Math.max.name
  | 1011 => some Lib.Math.min.name
  | 1012 => some Lib.Math.abs.name
  | 1013 => some Lib.MathLoose.max_long.x
  | 1014 => some Lib.MathLoose.min_long.x
  | _ => none
def zyn (a : Nat) : MethodName := match zmt[a]? with
  | some M => M.2.1
  | none => (match zmm a with
    | some y => y
    | none => objectInit)
theorem zmc_1010 : Cond.code Lib.Math.max.name Lib.Math.max.code 2 (some .int) ∈ zW := zW_of (zsub_3 (List.mem_of_getElem? (show tables_1_3[108]? = some (.code Lib.Math.max.name Lib.Math.max.code 2 (some .int)) from rfl))) rfl
theorem zms_1010 : Cond.static Lib.Math.max.name ∈ zW := zTab_mem (p := 706) (by decide +kernel)
theorem zmc_1011 : Cond.code Lib.Math.min.name Lib.Math.min.code 2 (some .int) ∈ zW := zW_of (zsub_3 (List.mem_of_getElem? (show tables_1_3[105]? = some (.code Lib.Math.min.name Lib.Math.min.code 2 (some .int)) from rfl))) rfl
theorem zms_1011 : Cond.static Lib.Math.min.name ∈ zW := zTab_mem (p := 703) (by decide +kernel)
theorem zmc_1012 : Cond.code Lib.Math.abs.name Lib.Math.abs.code 1 (some .int) ∈ zW := zW_of (zsub_3 (List.mem_of_getElem? (show tables_1_3[115]? = some (.code Lib.Math.abs.name Lib.Math.abs.code 1 (some .int)) from rfl))) rfl
theorem zms_1012 : Cond.static Lib.Math.abs.name ∈ zW := zTab_mem (p := 713) (by decide +kernel)
theorem zmc_1013 : Cond.code Lib.MathLoose.max_long.x Lib.MathLoose.max_long.code 4 (some .long) ∈ zW := zW_of (zsub_5 (List.mem_of_getElem? (show tables_1_5[185]? = some (.code Lib.MathLoose.max_long.x Lib.MathLoose.max_long.code 4 (some .long)) from rfl))) rfl
theorem zms_1013 : Cond.static Lib.MathLoose.max_long.x ∈ zW := zTab_mem (p := 1263) (by decide +kernel)
theorem zmc_1014 : Cond.code Lib.MathLoose.min_long.x Lib.MathLoose.min_long.code 4 (some .long) ∈ zW := zW_of (zsub_5 (List.mem_of_getElem? (show tables_1_5[182]? = some (.code Lib.MathLoose.min_long.x Lib.MathLoose.min_long.code 4 (some .long)) from rfl))) rfl
theorem zms_1014 : Cond.static Lib.MathLoose.min_long.x ∈ zW := zTab_mem (p := 1260) (by decide +kernel)
theorem zmi : Cond.initialized "java/lang/Math" ∈ zW := zTab_mem (p := 132) (by decide +kernel)
def zmcpW (q : Nat × Nat × Nat × Nat × Nat) : Bool := (Nat.beq q.2.2.1 1001 || Nat.beq q.2.2.1 1002) || (if q.2.2.2.1 = 0 then zTab (q.2.2.2.2 + 119) (.methodLink (zCN q.1) q.2.1 (zyn q.2.2.1)) else decide (lw_tbl[q.2.2.2.2 + 119]? = some (.methodLinkNest (zCN q.1) q.2.1 (zyn q.2.2.1) "AcresPaid")))
theorem zmcp_ok_0 : zmcp_0.all zmcpW = true := by decide +kernel
theorem zmcp_ok_1 : zmcp_1.all zmcpW = true := by decide +kernel
theorem zmcp_ok_2 : zmcp_2.all zmcpW = true := by decide +kernel
theorem zmcp_ok_3 : zmcp_3.all zmcpW = true := by decide +kernel
theorem zmcp_ok_4 : zmcp_4.all zmcpW = true := by decide +kernel
theorem zmcp_ok_5 : zmcp_5.all zmcpW = true := by decide +kernel
theorem zmcp_ok_6 : zmcp_6.all zmcpW = true := by decide +kernel
theorem zmcp_ok_7 : zmcp_7.all zmcpW = true := by decide +kernel
theorem zmcp_ok_8 : zmcp_8.all zmcpW = true := by decide +kernel
theorem zall_app {α : Type} {f : α → Bool} {x y : List α} (h1 : x.all f = true) (h2 : y.all f = true) : (x ++ y).all f = true := by
  rw [List.all_append, h1, h2]
  rfl
theorem zmcp_ok : zmcp.all zmcpW = true := zall_app zmcp_ok_0 (zall_app zmcp_ok_1 (zall_app zmcp_ok_2 (zall_app zmcp_ok_3 (zall_app zmcp_ok_4 (zall_app zmcp_ok_5 (zall_app zmcp_ok_6 (zall_app zmcp_ok_7 (zmcp_ok_8))))))))
theorem zccp_ok : zccp.all (fun q => decide (q.2.2.1 < 13) && zTab (q.2.2.2 + 119) (.classLink (zCN q.1) q.2.1 (zCN q.2.2.1))) = true := by decide +kernel
theorem zkcp_ok : zkcp.all (fun q => zTab (q.2.2.2 + 119) (.constant (zCN q.1) q.2.1 (Int32.ofNat q.2.2.1))) = true := by decide +kernel
theorem zlcp_ok : zlcp.all (fun q => zTab (q.2.2.2 + 119) (.constantLong (zCN q.1) q.2.1 (Int64.ofNat q.2.2.1))) = true := by decide +kernel
theorem zFP_ok : (List.range 13).all (fun c => (List.range (zN c)).all (fun k => zTab (((zFP.getD c []).getD k 0) + 119) (u_lay (zCN c) (zT c) k))) = true := by decide +kernel
def zTy (a : Nat) : Option ArrayType := match a with
  | 0 => some .int
  | 1 => some .long
  | 2 => some .boolean
  | 3 => some .byte
  | _ => none
def zchkI (own : Nat) (i : aI) : Bool := match i.2.1 with
  | .getfield ix => zfcp.any (fun q => Nat.beq q.1 own && Nat.beq q.2.1 ix && Nat.beq q.2.2.1 i.2.2.2.1 && Nat.beq q.2.2.2.1 i.2.2.2.2)
  | .putfield ix => zfcp.any (fun q => Nat.beq q.1 own && Nat.beq q.2.1 ix && Nat.beq q.2.2.1 i.2.2.2.1 && Nat.beq q.2.2.2.1 i.2.2.2.2)
  | .invokevirtual ix => zmcp.any (fun q => Nat.beq q.1 own && Nat.beq q.2.1 ix && Nat.beq q.2.2.1 i.2.2.2.1 && Nat.beq q.2.2.2.1 0)
  | .invokestatic ix => zmcp.any (fun q => Nat.beq q.1 own && Nat.beq q.2.1 ix && Nat.beq q.2.2.1 i.2.2.2.1)
  | .invokespecial ix => zmcp.any (fun q => Nat.beq q.1 own && Nat.beq q.2.1 ix && Nat.beq q.2.2.1 i.2.2.2.1)
  | .new ix => zccp.any (fun q => Nat.beq q.1 own && Nat.beq q.2.1 ix && Nat.beq q.2.2.1 i.2.2.2.1)
  | .anewarray ix => (Nat.beq i.2.2.2.1 4 && Nat.beq own 0 && Nat.beq ix 9) || (Nat.beq i.2.2.2.1 5 && Nat.beq own 3 && Nat.beq ix 19)
  | .ldc ix => bif Nat.beq i.2.2.2.1 4294967296 then Nat.beq own 10 && Nat.beq ix 114 else zkcp.any (fun q => Nat.beq q.1 own && Nat.beq q.2.1 ix && Nat.beq q.2.2.1 i.2.2.2.1)
  | .ldc_w ix => zkcp.any (fun q => Nat.beq q.1 own && Nat.beq q.2.1 ix && Nat.beq q.2.2.1 i.2.2.2.1)
  | .ldc2_w ix => zlcp.any (fun q => Nat.beq q.1 own && Nat.beq q.2.1 ix && Nat.beq q.2.2.1 i.2.2.2.1)
  | .goto off => decide ((i.1 : Int) + off = (i.2.2.2.1 : Int))
  | .ifCond _ off => decide ((i.1 : Int) + off = (i.2.2.2.1 : Int))
  | .if_icmp _ off => decide ((i.1 : Int) + off = (i.2.2.2.1 : Int))
  | .ifnull off => decide ((i.1 : Int) + off = (i.2.2.2.1 : Int))
  | .ifnonnull off => decide ((i.1 : Int) + off = (i.2.2.2.1 : Int))
  | .tableswitch dflt lo hi offs => decide (-2147483648 ≤ lo) && decide (hi < 2147483648) && decide (lo + offs.toList.length = hi + 1) && decide (0 ≤ (i.1 : Int) + dflt) && offs.toList.all (fun o => decide (0 ≤ (i.1 : Int) + o))
  | .lookupswitch dflt ps => decide (0 ≤ (i.1 : Int) + dflt) && ps.toList.all (fun o => decide (0 ≤ (i.1 : Int) + o.2) && decide (-2147483648 ≤ o.1) && decide (o.1 < 2147483648)) && (ps.toList.zip (ps.toList.drop 1)).all (fun (a, next) => decide (a.1 < next.1))
  | .newarray t => decide (zTy i.2.2.2.1 = some t)
  | .getstatic ix => Nat.beq own 6 && Nat.beq ix 49
  | _ => true
def zlen (i : Instr) (d : Nat) : Nat := match i with
  | .bipush _ => 2
  | .sipush _ => 3
  | .ldc _ => 2
  | .ldc_w _ => 3
  | .ldc2_w _ => 3
  | .iload _ => 2
  | .lload _ => 2
  | .aload _ => 2
  | .istore _ => 2
  | .lstore _ => 2
  | .astore _ => 2
  | .iinc _ _ => 3
  | .goto _ => 3
  | .ifCond _ _ => 3
  | .if_icmp _ _ => 3
  | .ifnull _ => 3
  | .ifnonnull _ => 3
  | .getfield _ => 3
  | .putfield _ => 3
  | .getstatic _ => 3
  | .invokevirtual _ => 3
  | .invokestatic _ => 3
  | .invokespecial _ => 3
  | .new _ => 3
  | .anewarray _ => 3
  | .newarray _ => 2
  | .tableswitch _ _ _ _ => d
  | .lookupswitch _ _ => d
  | _ => 1
def zchk (own : Nat) (bytes : ByteArray) (il : List aI) : Bool := il.all (fun i => decide (decode bytes i.1 = .ok (i.2.1, zlen i.2.1 i.2.2.1)) && zchkI own i)
def zMok (M : aM) : Prop := zchk M.1 M.2.2.1 M.2.2.2.2.2.2.2 = true ∧ Cond.code M.2.1 M.2.2.1 M.2.2.2.1 M.2.2.2.2.1 ∈ zW ∧ Cond.initialized M.2.1.cls ∈ zW ∧
  (if M.2.2.2.2.2.2.1 = 1 then Cond.static M.2.1 ∈ zW else Cond.instanceMethod M.2.1 ∈ zW) ∧ (M.2.2.2.2.2.2.1 = 0 → Cond.selects M.2.1.cls M.2.1 M.2.1 ∈ zW) ∧
  (plainName M.2.1.cls && decide (M.2.1.cls ≠ "java/lang/invoke/MethodHandle") && decide (M.2.1.cls ≠ "java/lang/invoke/VarHandle") && decide ((parseMethodDescriptor M.2.1.desc).map (fun d => d.parameters.length) = some M.2.2.2.2.2.1) && decide (zCN M.1 = M.2.1.cls) && decide (M.2.2.2.1 ≤ 22) && decide (M.2.2.2.2.2.2.1 = 2 → M.2.1.name = "<init>" ∧ M.2.2.2.2.1 = none)) = true

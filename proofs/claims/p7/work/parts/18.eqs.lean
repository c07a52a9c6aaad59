-- ===== the equations of our machine, an instruction a row =====
def aplain (i : Instr) : Bool := match i with
  | .ireturn => false
  | .lreturn => false
  | .areturn => false
  | .return_ => false
  | .invokestatic _ => false
  | .invokevirtual _ => false
  | .invokespecial _ => false
  | _ => true
theorem arun_p {X : aX} {n d pc : Nat} {M : aM} {L : aL} {r : List Value} {h : aH} {i : aI} (hf : aF pc M.2.2.2.2.2.2.2 = some i) (hp : aplain i.2.1 = true) : arun X (n + 1) d M pc L r h = aX1 X M.1 M.2.2.2.2.2.2.1 (arun X n d M) i L r h := by
  conv => lhs; unfold arun
  simp only [hf]
  obtain ⟨p, ins, len, a, b⟩ := i
  cases ins <;> first | rfl | cases hp
section RZ
variable {X : aX} {n d pc len a b : Nat} {M : aM} {L : aL} {r : List Value} {h : aH}
theorem r_iconst {z : Int} {v : Int32} (hf : aF pc M.2.2.2.2.2.2.2 = some (pc, (.iconst z), len, a, b)) (hv : Int32.ofInt z = v) : arun X (n + 1) d M pc L r h = arun X n d M (pc + 1) L (.int v :: r) h := by
  rw [arun_p hf rfl]
  subst hv
  rfl
theorem r_bipush {z : Int} {v : Int32} (hf : aF pc M.2.2.2.2.2.2.2 = some (pc, (.bipush z), len, a, b)) (hv : (Int8.ofInt z).toInt32 = v) : arun X (n + 1) d M pc L r h = arun X n d M (pc + 2) L (.int v :: r) h := by
  rw [arun_p hf rfl]
  subst hv
  rfl
theorem r_sipush {z : Int} {v : Int32} (hf : aF pc M.2.2.2.2.2.2.2 = some (pc, (.sipush z), len, a, b)) (hv : (Int16.ofInt z).toInt32 = v) : arun X (n + 1) d M pc L r h = arun X n d M (pc + 3) L (.int v :: r) h := by
  rw [arun_p hf rfl]
  subst hv
  rfl
theorem r_lconst {z : Fin 2} {v : Int64} (hf : aF pc M.2.2.2.2.2.2.2 = some (pc, (.lconst z), len, a, b)) (hv : Int64.ofNat z = v) : arun X (n + 1) d M pc L r h = arun X n d M (pc + 1) L (.long v :: r) h := by
  rw [arun_p hf rfl]
  subst hv
  rfl
theorem r_null  (hf : aF pc M.2.2.2.2.2.2.2 = some (pc, .aconst_null, len, a, b))  : arun X (n + 1) d M pc L r h = arun X n d M (pc + 1) L (.null :: r) h := by
  rw [arun_p hf rfl]
  rfl
theorem r_ldc {ix : Nat} {v : Int32} (hf : aF pc M.2.2.2.2.2.2.2 = some (pc, (.ldc ix), len, a, b)) (hv : Int32.ofNat a = v) (ha : Nat.beq a 4294967296 = false := by rfl) : arun X (n + 1) d M pc L r h = arun X n d M (pc + 2) L (.int v :: r) h := by
  rw [arun_p hf rfl]
  subst hv
  simp only [aX1, ha, cond_false]
theorem r_ldcS {ix : Nat} (hf : aF pc M.2.2.2.2.2.2.2 = some (pc, (.ldc ix), len, 4294967296, b)) : arun X (n + 1) d M pc L r h = arun X n d M (pc + 2) L (.retAddr 2 :: r) h := by
  rw [arun_p hf rfl]
  rfl
theorem r_ldcw {ix : Nat} {v : Int32} (hf : aF pc M.2.2.2.2.2.2.2 = some (pc, (.ldc_w ix), len, a, b)) (hv : Int32.ofNat a = v) : arun X (n + 1) d M pc L r h = arun X n d M (pc + 3) L (.int v :: r) h := by
  rw [arun_p hf rfl]
  subst hv
  rfl
theorem r_ldc2 {ix : Nat} {v : Int64} (hf : aF pc M.2.2.2.2.2.2.2 = some (pc, (.ldc2_w ix), len, a, b)) (hv : Int64.ofNat a = v) : arun X (n + 1) d M pc L r h = arun X n d M (pc + 3) L (.long v :: r) h := by
  rw [arun_p hf rfl]
  subst hv
  rfl
theorem r_iloadn {z : Fin 4} {x : Int32} (hf : aF pc M.2.2.2.2.2.2.2 = some (pc, (.iload_n z), len, a, b)) (hg : aG L z = some (.int x)) : arun X (n + 1) d M pc L r h = arun X n d M (pc + 1) L (.int x :: r) h := by
  rw [arun_p hf rfl]
  simp only [aX1, hg]
theorem r_iload {z : Nat} {x : Int32} (hf : aF pc M.2.2.2.2.2.2.2 = some (pc, (.iload z), len, a, b)) (hg : aG L z = some (.int x)) : arun X (n + 1) d M pc L r h = arun X n d M (pc + 2) L (.int x :: r) h := by
  rw [arun_p hf rfl]
  simp only [aX1, hg]
theorem r_lloadn {z : Fin 4} {x : Int64} (hf : aF pc M.2.2.2.2.2.2.2 = some (pc, (.lload_n z), len, a, b)) (hg : aG L z = some (.long x)) : arun X (n + 1) d M pc L r h = arun X n d M (pc + 1) L (.long x :: r) h := by
  rw [arun_p hf rfl]
  simp only [aX1, hg]
theorem r_lload {z : Nat} {x : Int64} (hf : aF pc M.2.2.2.2.2.2.2 = some (pc, (.lload z), len, a, b)) (hg : aG L z = some (.long x)) : arun X (n + 1) d M pc L r h = arun X n d M (pc + 2) L (.long x :: r) h := by
  rw [arun_p hf rfl]
  simp only [aX1, hg]
theorem r_aloadn {z : Fin 4} {x : Nat} (hf : aF pc M.2.2.2.2.2.2.2 = some (pc, (.aload_n z), len, a, b)) (hg : aG L z = some (.ref x)) : arun X (n + 1) d M pc L r h = arun X n d M (pc + 1) L (.ref x :: r) h := by
  rw [arun_p hf rfl]
  simp only [aX1, hg]
theorem r_aload {z : Nat} {x : Nat} (hf : aF pc M.2.2.2.2.2.2.2 = some (pc, (.aload z), len, a, b)) (hg : aG L z = some (.ref x)) : arun X (n + 1) d M pc L r h = arun X n d M (pc + 2) L (.ref x :: r) h := by
  rw [arun_p hf rfl]
  simp only [aX1, hg]
theorem r_aloadnX {z : Fin 4} {x : Nat} (hf : aF pc M.2.2.2.2.2.2.2 = some (pc, (.aload_n z), len, a, b)) (hg : aG L z = some (.retAddr x)) : arun X (n + 1) d M pc L r h = arun X n d M (pc + 1) L (.retAddr x :: r) h := by
  rw [arun_p hf rfl]
  simp only [aX1, hg]
theorem r_aloadX {z : Nat} {x : Nat} (hf : aF pc M.2.2.2.2.2.2.2 = some (pc, (.aload z), len, a, b)) (hg : aG L z = some (.retAddr x)) : arun X (n + 1) d M pc L r h = arun X n d M (pc + 2) L (.retAddr x :: r) h := by
  rw [arun_p hf rfl]
  simp only [aX1, hg]
theorem r_aloadnN {z : Fin 4} (hf : aF pc M.2.2.2.2.2.2.2 = some (pc, (.aload_n z), len, a, b)) (hg : aG L z = some .null) : arun X (n + 1) d M pc L r h = arun X n d M (pc + 1) L (.null :: r) h := by
  rw [arun_p hf rfl]
  simp only [aX1, hg]
theorem r_aloadN {z : Nat} (hf : aF pc M.2.2.2.2.2.2.2 = some (pc, (.aload z), len, a, b)) (hg : aG L z = some .null) : arun X (n + 1) d M pc L r h = arun X n d M (pc + 2) L (.null :: r) h := by
  rw [arun_p hf rfl]
  simp only [aX1, hg]
theorem r_istoren {z : Fin 4} {x : Int32} {L' : aL} (hf : aF pc M.2.2.2.2.2.2.2 = some (pc, (.istore_n z), len, a, b)) (hz : Nat.blt ((z : Nat)) L.length = true) (hL : aS1 L z (.int x) = L') : arun X (n + 1) d M pc L (.int x :: r) h = arun X n d M (pc + 1) L' r h := by
  rw [arun_p hf rfl]
  subst hL
  simp only [aX1, tI, tJ, hz, cond_true]
theorem r_istore {z : Nat} {x : Int32} {L' : aL} (hf : aF pc M.2.2.2.2.2.2.2 = some (pc, (.istore z), len, a, b)) (hz : Nat.blt ((z : Nat)) L.length = true) (hL : aS1 L z (.int x) = L') : arun X (n + 1) d M pc L (.int x :: r) h = arun X n d M (pc + 2) L' r h := by
  rw [arun_p hf rfl]
  subst hL
  simp only [aX1, tI, tJ, hz, cond_true]
theorem r_lstoren {z : Fin 4} {x : Int64} {L' : aL} (hf : aF pc M.2.2.2.2.2.2.2 = some (pc, (.lstore_n z), len, a, b)) (hz : Nat.blt ((z : Nat) + 1) L.length = true) (hL : aS2 L z (.long x) = L') : arun X (n + 1) d M pc L (.long x :: r) h = arun X n d M (pc + 1) L' r h := by
  rw [arun_p hf rfl]
  subst hL
  simp only [aX1, tI, tJ, hz, cond_true]
theorem r_lstore {z : Nat} {x : Int64} {L' : aL} (hf : aF pc M.2.2.2.2.2.2.2 = some (pc, (.lstore z), len, a, b)) (hz : Nat.blt ((z : Nat) + 1) L.length = true) (hL : aS2 L z (.long x) = L') : arun X (n + 1) d M pc L (.long x :: r) h = arun X n d M (pc + 2) L' r h := by
  rw [arun_p hf rfl]
  subst hL
  simp only [aX1, tI, tJ, hz, cond_true]
theorem r_astoren {z : Fin 4} {x : Nat} {L' : aL} (hf : aF pc M.2.2.2.2.2.2.2 = some (pc, (.astore_n z), len, a, b)) (hz : Nat.blt ((z : Nat)) L.length = true) (hL : aS1 L z (.ref x) = L') : arun X (n + 1) d M pc L (.ref x :: r) h = arun X n d M (pc + 1) L' r h := by
  rw [arun_p hf rfl]
  subst hL
  simp only [aX1, tI, tJ, hz, cond_true]
theorem r_astore {z : Nat} {x : Nat} {L' : aL} (hf : aF pc M.2.2.2.2.2.2.2 = some (pc, (.astore z), len, a, b)) (hz : Nat.blt ((z : Nat)) L.length = true) (hL : aS1 L z (.ref x) = L') : arun X (n + 1) d M pc L (.ref x :: r) h = arun X n d M (pc + 2) L' r h := by
  rw [arun_p hf rfl]
  subst hL
  simp only [aX1, tI, tJ, hz, cond_true]
theorem r_astorenN {z : Fin 4} {L' : aL} (hf : aF pc M.2.2.2.2.2.2.2 = some (pc, (.astore_n z), len, a, b)) (hz : Nat.blt (z : Nat) L.length = true) (hL : aS1 L z .null = L') : arun X (n + 1) d M pc L (.null :: r) h = arun X n d M (pc + 1) L' r h := by
  rw [arun_p hf rfl]
  subst hL
  simp only [aX1, hz, cond_true]
theorem r_astoreN {z : Nat} {L' : aL} (hf : aF pc M.2.2.2.2.2.2.2 = some (pc, (.astore z), len, a, b)) (hz : Nat.blt (z : Nat) L.length = true) (hL : aS1 L z .null = L') : arun X (n + 1) d M pc L (.null :: r) h = arun X n d M (pc + 2) L' r h := by
  rw [arun_p hf rfl]
  subst hL
  simp only [aX1, hz, cond_true]
theorem r_iinc {z : Nat} {c : Int} {x v : Int32} {L' : aL} (hf : aF pc M.2.2.2.2.2.2.2 = some (pc, (.iinc z c), len, a, b)) (hg : aG L z = some (.int x)) (hv : x + Int32.ofInt c = v) (hL : aS1 L z (.int v) = L') : arun X (n + 1) d M pc L r h = arun X n d M (pc + 3) L' r h := by
  rw [arun_p hf rfl]
  subst hv
  subst hL
  simp only [aX1, hg]
theorem r_iadd {x y v : Int32} (hf : aF pc M.2.2.2.2.2.2.2 = some (pc, .iadd, len, a, b)) (hv : x + y = v) : arun X (n + 1) d M pc L (.int y :: .int x :: r) h = arun X n d M (pc + 1) L (.int v :: r) h := by
  rw [arun_p hf rfl]
  subst hv
  rfl
theorem r_isub {x y v : Int32} (hf : aF pc M.2.2.2.2.2.2.2 = some (pc, .isub, len, a, b)) (hv : x - y = v) : arun X (n + 1) d M pc L (.int y :: .int x :: r) h = arun X n d M (pc + 1) L (.int v :: r) h := by
  rw [arun_p hf rfl]
  subst hv
  rfl
theorem r_imul {x y v : Int32} (hf : aF pc M.2.2.2.2.2.2.2 = some (pc, .imul, len, a, b)) (hv : x * y = v) : arun X (n + 1) d M pc L (.int y :: .int x :: r) h = arun X n d M (pc + 1) L (.int v :: r) h := by
  rw [arun_p hf rfl]
  subst hv
  rfl
theorem r_iand {x y v : Int32} (hf : aF pc M.2.2.2.2.2.2.2 = some (pc, .iand, len, a, b)) (hv : x &&& y = v) : arun X (n + 1) d M pc L (.int y :: .int x :: r) h = arun X n d M (pc + 1) L (.int v :: r) h := by
  rw [arun_p hf rfl]
  subst hv
  rfl
theorem r_ior {x y v : Int32} (hf : aF pc M.2.2.2.2.2.2.2 = some (pc, .ior, len, a, b)) (hv : x ||| y = v) : arun X (n + 1) d M pc L (.int y :: .int x :: r) h = arun X n d M (pc + 1) L (.int v :: r) h := by
  rw [arun_p hf rfl]
  subst hv
  rfl
theorem r_ixor {x y v : Int32} (hf : aF pc M.2.2.2.2.2.2.2 = some (pc, .ixor, len, a, b)) (hv : x ^^^ y = v) : arun X (n + 1) d M pc L (.int y :: .int x :: r) h = arun X n d M (pc + 1) L (.int v :: r) h := by
  rw [arun_p hf rfl]
  subst hv
  rfl
theorem r_ishl {x y v : Int32} (hf : aF pc M.2.2.2.2.2.2.2 = some (pc, .ishl, len, a, b)) (hv : x <<< (y &&& 31) = v) : arun X (n + 1) d M pc L (.int y :: .int x :: r) h = arun X n d M (pc + 1) L (.int v :: r) h := by
  rw [arun_p hf rfl]
  subst hv
  rfl
theorem r_ishr {x y v : Int32} (hf : aF pc M.2.2.2.2.2.2.2 = some (pc, .ishr, len, a, b)) (hv : x >>> (y &&& 31) = v) : arun X (n + 1) d M pc L (.int y :: .int x :: r) h = arun X n d M (pc + 1) L (.int v :: r) h := by
  rw [arun_p hf rfl]
  subst hv
  rfl
theorem r_iushr {x y v : Int32} (hf : aF pc M.2.2.2.2.2.2.2 = some (pc, .iushr, len, a, b)) (hv : (x.toUInt32 >>> (y.toUInt32 &&& Int32.toUInt32 31)).toInt32 = v) : arun X (n + 1) d M pc L (.int y :: .int x :: r) h = arun X n d M (pc + 1) L (.int v :: r) h := by
  rw [arun_p hf rfl]
  subst hv
  rfl
theorem r_idiv {x y v : Int32} (hf : aF pc M.2.2.2.2.2.2.2 = some (pc, .idiv, len, a, b)) (hn : ¬ y = 0) (hv : x / y = v) : arun X (n + 1) d M pc L (.int y :: .int x :: r) h = arun X n d M (pc + 1) L (.int v :: r) h := by
  rw [arun_p hf rfl]
  subst hv
  simp only [aX1, tII, if_neg hn]
theorem r_irem {x y v : Int32} (hf : aF pc M.2.2.2.2.2.2.2 = some (pc, .irem, len, a, b)) (hn : ¬ y = 0) (hv : x - x / y * y = v) : arun X (n + 1) d M pc L (.int y :: .int x :: r) h = arun X n d M (pc + 1) L (.int v :: r) h := by
  rw [arun_p hf rfl]
  subst hv
  simp only [aX1, tII, if_neg hn]
theorem r_ladd {x y v : Int64} (hf : aF pc M.2.2.2.2.2.2.2 = some (pc, .ladd, len, a, b)) (hv : x + y = v) : arun X (n + 1) d M pc L (.long y :: .long x :: r) h = arun X n d M (pc + 1) L (.long v :: r) h := by
  rw [arun_p hf rfl]
  subst hv
  rfl
theorem r_lsub {x y v : Int64} (hf : aF pc M.2.2.2.2.2.2.2 = some (pc, .lsub, len, a, b)) (hv : x - y = v) : arun X (n + 1) d M pc L (.long y :: .long x :: r) h = arun X n d M (pc + 1) L (.long v :: r) h := by
  rw [arun_p hf rfl]
  subst hv
  rfl
theorem r_lmul {x y v : Int64} (hf : aF pc M.2.2.2.2.2.2.2 = some (pc, .lmul, len, a, b)) (hv : x * y = v) : arun X (n + 1) d M pc L (.long y :: .long x :: r) h = arun X n d M (pc + 1) L (.long v :: r) h := by
  rw [arun_p hf rfl]
  subst hv
  rfl
theorem r_land {x y v : Int64} (hf : aF pc M.2.2.2.2.2.2.2 = some (pc, .land, len, a, b)) (hv : x &&& y = v) : arun X (n + 1) d M pc L (.long y :: .long x :: r) h = arun X n d M (pc + 1) L (.long v :: r) h := by
  rw [arun_p hf rfl]
  subst hv
  rfl
theorem r_lor {x y v : Int64} (hf : aF pc M.2.2.2.2.2.2.2 = some (pc, .lor, len, a, b)) (hv : x ||| y = v) : arun X (n + 1) d M pc L (.long y :: .long x :: r) h = arun X n d M (pc + 1) L (.long v :: r) h := by
  rw [arun_p hf rfl]
  subst hv
  rfl
theorem r_ldiv {x y v : Int64} (hf : aF pc M.2.2.2.2.2.2.2 = some (pc, .ldiv, len, a, b)) (hn : ¬ y = 0) (hv : x / y = v) : arun X (n + 1) d M pc L (.long y :: .long x :: r) h = arun X n d M (pc + 1) L (.long v :: r) h := by
  rw [arun_p hf rfl]
  subst hv
  simp only [aX1, tJJ, if_neg hn]
theorem r_lrem {x y v : Int64} (hf : aF pc M.2.2.2.2.2.2.2 = some (pc, .lrem, len, a, b)) (hn : ¬ y = 0) (hv : x - x / y * y = v) : arun X (n + 1) d M pc L (.long y :: .long x :: r) h = arun X n d M (pc + 1) L (.long v :: r) h := by
  rw [arun_p hf rfl]
  subst hv
  simp only [aX1, tJJ, if_neg hn]
theorem r_lshl {x v : Int64} {y : Int32} (hf : aF pc M.2.2.2.2.2.2.2 = some (pc, .lshl, len, a, b)) (hv : x <<< (y.toInt64 &&& 63) = v) : arun X (n + 1) d M pc L (.int y :: .long x :: r) h = arun X n d M (pc + 1) L (.long v :: r) h := by
  rw [arun_p hf rfl]
  subst hv
  rfl
theorem r_lcmp {x y : Int64} {v : Int32} (hf : aF pc M.2.2.2.2.2.2.2 = some (pc, .lcmp, len, a, b)) (hv : lg_cmp x y = v) : arun X (n + 1) d M pc L (.long y :: .long x :: r) h = arun X n d M (pc + 1) L (.int v :: r) h := by
  rw [arun_p hf rfl]
  subst hv
  rfl
theorem r_ineg {x : Int32} {v : Int32} (hf : aF pc M.2.2.2.2.2.2.2 = some (pc, .ineg, len, a, b)) (hv : -x = v) : arun X (n + 1) d M pc L (.int x :: r) h = arun X n d M (pc + 1) L (.int v :: r) h := by
  rw [arun_p hf rfl]
  subst hv
  rfl
theorem r_i2l {x : Int32} {v : Int64} (hf : aF pc M.2.2.2.2.2.2.2 = some (pc, .i2l, len, a, b)) (hv : x.toInt64 = v) : arun X (n + 1) d M pc L (.int x :: r) h = arun X n d M (pc + 1) L (.long v :: r) h := by
  rw [arun_p hf rfl]
  subst hv
  rfl
theorem r_l2i {x : Int64} {v : Int32} (hf : aF pc M.2.2.2.2.2.2.2 = some (pc, .l2i, len, a, b)) (hv : x.toInt32 = v) : arun X (n + 1) d M pc L (.long x :: r) h = arun X n d M (pc + 1) L (.int v :: r) h := by
  rw [arun_p hf rfl]
  subst hv
  rfl
theorem r_i2b {x : Int32} {v : Int32} (hf : aF pc M.2.2.2.2.2.2.2 = some (pc, .i2b, len, a, b)) (hv : x.toInt8.toInt32 = v) : arun X (n + 1) d M pc L (.int x :: r) h = arun X n d M (pc + 1) L (.int v :: r) h := by
  rw [arun_p hf rfl]
  subst hv
  rfl
theorem r_i2s {x : Int32} {v : Int32} (hf : aF pc M.2.2.2.2.2.2.2 = some (pc, .i2s, len, a, b)) (hv : x.toInt16.toInt32 = v) : arun X (n + 1) d M pc L (.int x :: r) h = arun X n d M (pc + 1) L (.int v :: r) h := by
  rw [arun_p hf rfl]
  subst hv
  rfl
theorem r_i2c {x : Int32} {v : Int32} (hf : aF pc M.2.2.2.2.2.2.2 = some (pc, .i2c, len, a, b)) (hv : (x.toUInt32 % 65536).toInt32 = v) : arun X (n + 1) d M pc L (.int x :: r) h = arun X n d M (pc + 1) L (.int v :: r) h := by
  rw [arun_p hf rfl]
  subst hv
  rfl
theorem r_dup {v : Value} (hf : aF pc M.2.2.2.2.2.2.2 = some (pc, .dup, len, a, b)) (hk : aok1 v = true) : arun X (n + 1) d M pc L (v :: r) h = arun X n d M (pc + 1) L (v :: v :: r) h := by
  rw [arun_p hf rfl]
  simp only [aX1, hk, cond_true]
theorem r_dup2 {v w : Value} (hf : aF pc M.2.2.2.2.2.2.2 = some (pc, .dup2, len, a, b)) (hk : (aok1 v && aok1 w) = true) : arun X (n + 1) d M pc L (v :: w :: r) h = arun X n d M (pc + 1) L (v :: w :: v :: w :: r) h := by
  rw [arun_p hf rfl]
  simp only [aX1, hk, cond_true]
theorem r_dup_x1 {v w : Value} (hf : aF pc M.2.2.2.2.2.2.2 = some (pc, .dup_x1, len, a, b)) (hk : (aok1 v && aok1 w) = true) : arun X (n + 1) d M pc L (v :: w :: r) h = arun X n d M (pc + 1) L (v :: w :: v :: r) h := by
  rw [arun_p hf rfl]
  simp only [aX1, hk, cond_true]
theorem r_pop {v : Value} (hf : aF pc M.2.2.2.2.2.2.2 = some (pc, .pop, len, a, b)) (hk : aok1 v = true) : arun X (n + 1) d M pc L (v :: r) h = arun X n d M (pc + 1) L r h := by
  rw [arun_p hf rfl]
  simp only [aX1, hk, cond_true]
theorem r_pop2 {x : Int64} (hf : aF pc M.2.2.2.2.2.2.2 = some (pc, .pop2, len, a, b)) : arun X (n + 1) d M pc L (.long x :: r) h = arun X n d M (pc + 1) L r h := by
  rw [arun_p hf rfl]
  rfl
theorem r_goto {off : Int} (hf : aF pc M.2.2.2.2.2.2.2 = some (pc, (.goto off), len, a, b))  : arun X (n + 1) d M pc L r h = arun X n d M a L r h := by
  rw [arun_p hf rfl]
  rfl
theorem r_if_eq_t {x : Int32} {off : Int} (hf : aF pc M.2.2.2.2.2.2.2 = some (pc, (.ifCond .eq off), len, a, b)) (hc : x = 0) : arun X (n + 1) d M pc L (.int x :: r) h = arun X n d M a L r h := by
  rw [arun_p hf rfl]
  simp only [aX1, tI, if_pos hc]
theorem r_if_eq_f {x : Int32} {off : Int} (hf : aF pc M.2.2.2.2.2.2.2 = some (pc, (.ifCond .eq off), len, a, b)) (hc : ¬ x = 0) : arun X (n + 1) d M pc L (.int x :: r) h = arun X n d M (pc + 3) L r h := by
  rw [arun_p hf rfl]
  simp only [aX1, tI, if_neg hc]
theorem r_if_ne_t {x : Int32} {off : Int} (hf : aF pc M.2.2.2.2.2.2.2 = some (pc, (.ifCond .ne off), len, a, b)) (hc : ¬ x = 0) : arun X (n + 1) d M pc L (.int x :: r) h = arun X n d M a L r h := by
  rw [arun_p hf rfl]
  simp only [aX1, tI, if_neg hc]
theorem r_if_ne_f {x : Int32} {off : Int} (hf : aF pc M.2.2.2.2.2.2.2 = some (pc, (.ifCond .ne off), len, a, b)) (hc : x = 0) : arun X (n + 1) d M pc L (.int x :: r) h = arun X n d M (pc + 3) L r h := by
  rw [arun_p hf rfl]
  simp only [aX1, tI, if_pos hc]
theorem r_if_lt_t {x : Int32} {off : Int} (hf : aF pc M.2.2.2.2.2.2.2 = some (pc, (.ifCond .lt off), len, a, b)) (hc : x < 0) : arun X (n + 1) d M pc L (.int x :: r) h = arun X n d M a L r h := by
  rw [arun_p hf rfl]
  simp only [aX1, tI, if_pos hc]
theorem r_if_lt_f {x : Int32} {off : Int} (hf : aF pc M.2.2.2.2.2.2.2 = some (pc, (.ifCond .lt off), len, a, b)) (hc : ¬ x < 0) : arun X (n + 1) d M pc L (.int x :: r) h = arun X n d M (pc + 3) L r h := by
  rw [arun_p hf rfl]
  simp only [aX1, tI, if_neg hc]
theorem r_if_ge_t {x : Int32} {off : Int} (hf : aF pc M.2.2.2.2.2.2.2 = some (pc, (.ifCond .ge off), len, a, b)) (hc : 0 ≤ x) : arun X (n + 1) d M pc L (.int x :: r) h = arun X n d M a L r h := by
  rw [arun_p hf rfl]
  simp only [aX1, tI, if_pos hc]
theorem r_if_ge_f {x : Int32} {off : Int} (hf : aF pc M.2.2.2.2.2.2.2 = some (pc, (.ifCond .ge off), len, a, b)) (hc : ¬ 0 ≤ x) : arun X (n + 1) d M pc L (.int x :: r) h = arun X n d M (pc + 3) L r h := by
  rw [arun_p hf rfl]
  simp only [aX1, tI, if_neg hc]
theorem r_if_gt_t {x : Int32} {off : Int} (hf : aF pc M.2.2.2.2.2.2.2 = some (pc, (.ifCond .gt off), len, a, b)) (hc : 0 < x) : arun X (n + 1) d M pc L (.int x :: r) h = arun X n d M a L r h := by
  rw [arun_p hf rfl]
  simp only [aX1, tI, if_pos hc]
theorem r_if_gt_f {x : Int32} {off : Int} (hf : aF pc M.2.2.2.2.2.2.2 = some (pc, (.ifCond .gt off), len, a, b)) (hc : ¬ 0 < x) : arun X (n + 1) d M pc L (.int x :: r) h = arun X n d M (pc + 3) L r h := by
  rw [arun_p hf rfl]
  simp only [aX1, tI, if_neg hc]
theorem r_if_le_t {x : Int32} {off : Int} (hf : aF pc M.2.2.2.2.2.2.2 = some (pc, (.ifCond .le off), len, a, b)) (hc : x ≤ 0) : arun X (n + 1) d M pc L (.int x :: r) h = arun X n d M a L r h := by
  rw [arun_p hf rfl]
  simp only [aX1, tI, if_pos hc]
theorem r_if_le_f {x : Int32} {off : Int} (hf : aF pc M.2.2.2.2.2.2.2 = some (pc, (.ifCond .le off), len, a, b)) (hc : ¬ x ≤ 0) : arun X (n + 1) d M pc L (.int x :: r) h = arun X n d M (pc + 3) L r h := by
  rw [arun_p hf rfl]
  simp only [aX1, tI, if_neg hc]
theorem r_icmp_eq_t {x y : Int32} {off : Int} (hf : aF pc M.2.2.2.2.2.2.2 = some (pc, (.if_icmp .eq off), len, a, b)) (hc : x = y) : arun X (n + 1) d M pc L (.int y :: .int x :: r) h = arun X n d M a L r h := by
  rw [arun_p hf rfl]
  simp only [aX1, tII, if_pos hc]
theorem r_icmp_eq_f {x y : Int32} {off : Int} (hf : aF pc M.2.2.2.2.2.2.2 = some (pc, (.if_icmp .eq off), len, a, b)) (hc : ¬ x = y) : arun X (n + 1) d M pc L (.int y :: .int x :: r) h = arun X n d M (pc + 3) L r h := by
  rw [arun_p hf rfl]
  simp only [aX1, tII, if_neg hc]
theorem r_icmp_ne_t {x y : Int32} {off : Int} (hf : aF pc M.2.2.2.2.2.2.2 = some (pc, (.if_icmp .ne off), len, a, b)) (hc : ¬ x = y) : arun X (n + 1) d M pc L (.int y :: .int x :: r) h = arun X n d M a L r h := by
  rw [arun_p hf rfl]
  simp only [aX1, tII, if_neg hc]
theorem r_icmp_ne_f {x y : Int32} {off : Int} (hf : aF pc M.2.2.2.2.2.2.2 = some (pc, (.if_icmp .ne off), len, a, b)) (hc : x = y) : arun X (n + 1) d M pc L (.int y :: .int x :: r) h = arun X n d M (pc + 3) L r h := by
  rw [arun_p hf rfl]
  simp only [aX1, tII, if_pos hc]
theorem r_icmp_lt_t {x y : Int32} {off : Int} (hf : aF pc M.2.2.2.2.2.2.2 = some (pc, (.if_icmp .lt off), len, a, b)) (hc : x < y) : arun X (n + 1) d M pc L (.int y :: .int x :: r) h = arun X n d M a L r h := by
  rw [arun_p hf rfl]
  simp only [aX1, tII, if_pos hc]
theorem r_icmp_lt_f {x y : Int32} {off : Int} (hf : aF pc M.2.2.2.2.2.2.2 = some (pc, (.if_icmp .lt off), len, a, b)) (hc : ¬ x < y) : arun X (n + 1) d M pc L (.int y :: .int x :: r) h = arun X n d M (pc + 3) L r h := by
  rw [arun_p hf rfl]
  simp only [aX1, tII, if_neg hc]
theorem r_icmp_ge_t {x y : Int32} {off : Int} (hf : aF pc M.2.2.2.2.2.2.2 = some (pc, (.if_icmp .ge off), len, a, b)) (hc : y ≤ x) : arun X (n + 1) d M pc L (.int y :: .int x :: r) h = arun X n d M a L r h := by
  rw [arun_p hf rfl]
  simp only [aX1, tII, if_pos hc]
theorem r_icmp_ge_f {x y : Int32} {off : Int} (hf : aF pc M.2.2.2.2.2.2.2 = some (pc, (.if_icmp .ge off), len, a, b)) (hc : ¬ y ≤ x) : arun X (n + 1) d M pc L (.int y :: .int x :: r) h = arun X n d M (pc + 3) L r h := by
  rw [arun_p hf rfl]
  simp only [aX1, tII, if_neg hc]
theorem r_icmp_gt_t {x y : Int32} {off : Int} (hf : aF pc M.2.2.2.2.2.2.2 = some (pc, (.if_icmp .gt off), len, a, b)) (hc : y < x) : arun X (n + 1) d M pc L (.int y :: .int x :: r) h = arun X n d M a L r h := by
  rw [arun_p hf rfl]
  simp only [aX1, tII, if_pos hc]
theorem r_icmp_gt_f {x y : Int32} {off : Int} (hf : aF pc M.2.2.2.2.2.2.2 = some (pc, (.if_icmp .gt off), len, a, b)) (hc : ¬ y < x) : arun X (n + 1) d M pc L (.int y :: .int x :: r) h = arun X n d M (pc + 3) L r h := by
  rw [arun_p hf rfl]
  simp only [aX1, tII, if_neg hc]
theorem r_icmp_le_t {x y : Int32} {off : Int} (hf : aF pc M.2.2.2.2.2.2.2 = some (pc, (.if_icmp .le off), len, a, b)) (hc : x ≤ y) : arun X (n + 1) d M pc L (.int y :: .int x :: r) h = arun X n d M a L r h := by
  rw [arun_p hf rfl]
  simp only [aX1, tII, if_pos hc]
theorem r_icmp_le_f {x y : Int32} {off : Int} (hf : aF pc M.2.2.2.2.2.2.2 = some (pc, (.if_icmp .le off), len, a, b)) (hc : ¬ x ≤ y) : arun X (n + 1) d M pc L (.int y :: .int x :: r) h = arun X n d M (pc + 3) L r h := by
  rw [arun_p hf rfl]
  simp only [aX1, tII, if_neg hc]
theorem r_ifnull_r {x : Nat} {off : Int} (hf : aF pc M.2.2.2.2.2.2.2 = some (pc, (.ifnull off), len, a, b))  : arun X (n + 1) d M pc L (.ref x :: r) h = arun X n d M (pc + 3) L r h := by
  rw [arun_p hf rfl]
  rfl
theorem r_ifnull_n {off : Int} (hf : aF pc M.2.2.2.2.2.2.2 = some (pc, (.ifnull off), len, a, b))  : arun X (n + 1) d M pc L (.null :: r) h = arun X n d M a L r h := by
  rw [arun_p hf rfl]
  rfl
theorem r_ifnonnull_r {x : Nat} {off : Int} (hf : aF pc M.2.2.2.2.2.2.2 = some (pc, (.ifnonnull off), len, a, b))  : arun X (n + 1) d M pc L (.ref x :: r) h = arun X n d M a L r h := by
  rw [arun_p hf rfl]
  rfl
theorem r_ifnonnull_n {off : Int} (hf : aF pc M.2.2.2.2.2.2.2 = some (pc, (.ifnonnull off), len, a, b))  : arun X (n + 1) d M pc L (.null :: r) h = arun X n d M (pc + 3) L r h := by
  rw [arun_p hf rfl]
  rfl
theorem r_tsw {x : Int32} {dd lo hi : Int} {offs : Array Int} (hf : aF pc M.2.2.2.2.2.2.2 = some (pc, (.tableswitch dd lo hi offs), len, a, b))  : arun X (n + 1) d M pc L (.int x :: r) h = asw x (fun q => arun X n d M ((pc : Int) + q).toNat L r h) dd lo offs.toList := by
  rw [arun_p hf rfl]
  rfl
theorem r_lsw {x : Int32} {dd : Int} {ps : Array (Int × Int)} (hf : aF pc M.2.2.2.2.2.2.2 = some (pc, (.lookupswitch dd ps), len, a, b))  : arun X (n + 1) d M pc L (.int x :: r) h = alw x (fun q => arun X n d M ((pc : Int) + q).toNat L r h) dd ps.toList := by
  rw [arun_p hf rfl]
  rfl
theorem r_get {ix o : Nat} {fs : List Value} {v : Value} (hf : aF pc M.2.2.2.2.2.2.2 = some (pc, (.getfield ix), len, a, b)) (ho : h.1[o]? = some (.inr (a, fs))) (hv : fs[b]? = some v) : arun X (n + 1) d M pc L (.ref o :: r) h = arun X n d M (pc + 3) L (v :: r) h := by
  rw [arun_p hf rfl]
  simp only [aX1, aobj, ho, hv, Nat.beq_refl, cond_true]
theorem r_put {ix o : Nat} {fs : List Value} {v : Value} {h' : aH} (hf : aF pc M.2.2.2.2.2.2.2 = some (pc, (.putfield ix), len, a, b)) (ho : h.1[o]? = some (.inr (a, fs))) (hk : ((!((zT a b).2.2.2) || (Nat.beq M.2.2.2.2.2.2.1 2 && Nat.beq M.1 a)) && aok (zY a b) v && Nat.blt b fs.length) = true) (hh : (h.1.set o (.inr (a, fs.set b v)), h.2) = h') : arun X (n + 1) d M pc L (v :: .ref o :: r) h = arun X n d M (pc + 3) L r h' := by
  rw [arun_p hf rfl]
  subst hh
  simp only [aX1, aobj, ho, Nat.beq_refl, cond_true, hk]
theorem r_gets {ix : Nat} (hf : aF pc M.2.2.2.2.2.2.2 = some (pc, (.getstatic ix), len, a, b))  : arun X (n + 1) d M pc L r h = arun X n d M (pc + 3) L (.retAddr 0 :: r) h := by
  rw [arun_p hf rfl]
  rfl
theorem r_alen {o k : Nat} {f : (Nat → Int32) ⊕ (Nat → Int64) ⊕ (Nat → UInt32) ⊕ (Nat → UInt64) ⊕ (Nat → Option Nat)} {v : Int32} (hf : aF pc M.2.2.2.2.2.2.2 = some (pc, .arraylength, len, a, b)) (ho : h.1[o]? = some (.inl (0, k, f))) (hv : Int32.ofNat k = v) : arun X (n + 1) d M pc L (.ref o :: r) h = arun X n d M (pc + 1) L (.int v :: r) h := by
  rw [arun_p hf rfl]
  subst hv
  simp only [aX1, ho]
theorem r_alen1 {o k : Nat} {f : (Nat → Int32) ⊕ (Nat → Int64) ⊕ (Nat → UInt32) ⊕ (Nat → UInt64) ⊕ (Nat → Option Nat)} {v : Int32} (hf : aF pc M.2.2.2.2.2.2.2 = some (pc, .arraylength, len, a, b)) (ho : h.1[o]? = some (.inl (1, k, f))) (hv : Int32.ofNat k = v) : arun X (n + 1) d M pc L (.ref o :: r) h = arun X n d M (pc + 1) L (.int v :: r) h := by
  rw [arun_p hf rfl]
  subst hv
  simp only [aX1, ho]
theorem r_xlen {x k : Nat} {f : Nat → Int32} {v : Int32} (hf : aF pc M.2.2.2.2.2.2.2 = some (pc, .arraylength, len, a, b)) (hX : X x = some (k, f)) (hv : Int32.ofNat k = v) : arun X (n + 1) d M pc L (.retAddr x :: r) h = arun X n d M (pc + 1) L (.int v :: r) h := by
  rw [arun_p hf rfl]
  subst hv
  simp only [aX1, hX]
theorem r_iald {o k : Nat} {j : Int32} {f : Nat → Int32} {v : Int32} (hf : aF pc M.2.2.2.2.2.2.2 = some (pc, .iaload, len, a, b)) (ho : h.1[o]? = some (.inl (0, k, .inl f))) (hj : ¬ (j < 0 ∨ k ≤ j.toNatClampNeg)) (hv : f j.toNatClampNeg = v) : arun X (n + 1) d M pc L (.int j :: .ref o :: r) h = arun X n d M (pc + 1) L (.int v :: r) h := by
  rw [arun_p hf rfl]
  subst hv
  simp only [aX1, aarI, aarJ, ho, if_neg hj, show Nat.beq 0 0 = true from rfl, show (Nat.beq 2 2 || Nat.beq 2 3) = true from rfl, show (Nat.beq 3 2 || Nat.beq 3 3) = true from rfl, cond_true]
theorem r_zald {o k : Nat} {j : Int32} {f : Nat → Int32} {v : Int32} (hf : aF pc M.2.2.2.2.2.2.2 = some (pc, .baload, len, a, b)) (ho : h.1[o]? = some (.inl (2, k, .inl f))) (hj : ¬ (j < 0 ∨ k ≤ j.toNatClampNeg)) (hv : f j.toNatClampNeg = v) : arun X (n + 1) d M pc L (.int j :: .ref o :: r) h = arun X n d M (pc + 1) L (.int v :: r) h := by
  rw [arun_p hf rfl]
  subst hv
  simp only [aX1, aarI, aarJ, ho, if_neg hj, show Nat.beq 0 0 = true from rfl, show (Nat.beq 2 2 || Nat.beq 2 3) = true from rfl, show (Nat.beq 3 2 || Nat.beq 3 3) = true from rfl, cond_true]
theorem r_bald {o k : Nat} {j : Int32} {f : Nat → Int32} {v : Int32} (hf : aF pc M.2.2.2.2.2.2.2 = some (pc, .baload, len, a, b)) (ho : h.1[o]? = some (.inl (3, k, .inl f))) (hj : ¬ (j < 0 ∨ k ≤ j.toNatClampNeg)) (hv : f j.toNatClampNeg = v) : arun X (n + 1) d M pc L (.int j :: .ref o :: r) h = arun X n d M (pc + 1) L (.int v :: r) h := by
  rw [arun_p hf rfl]
  subst hv
  simp only [aX1, aarI, aarJ, ho, if_neg hj, show Nat.beq 0 0 = true from rfl, show (Nat.beq 2 2 || Nat.beq 2 3) = true from rfl, show (Nat.beq 3 2 || Nat.beq 3 3) = true from rfl, cond_true]
theorem r_lald {o k : Nat} {j : Int32} {f : Nat → Int64} {v : Int64} (hf : aF pc M.2.2.2.2.2.2.2 = some (pc, .laload, len, a, b)) (ho : h.1[o]? = some (.inl (1, k, .inr (.inl f)))) (hj : ¬ (j < 0 ∨ k ≤ j.toNatClampNeg)) (hv : f j.toNatClampNeg = v) : arun X (n + 1) d M pc L (.int j :: .ref o :: r) h = arun X n d M (pc + 1) L (.long v :: r) h := by
  rw [arun_p hf rfl]
  subst hv
  simp only [aX1, aarI, aarJ, ho, if_neg hj, show Nat.beq 0 0 = true from rfl, show (Nat.beq 2 2 || Nat.beq 2 3) = true from rfl, show (Nat.beq 3 2 || Nat.beq 3 3) = true from rfl, cond_true]
theorem r_xld {x k : Nat} {j v : Int32} {f : Nat → Int32} (hf : aF pc M.2.2.2.2.2.2.2 = some (pc, .iaload, len, a, b)) (hX : X x = some (k, f)) (hj : ¬ (j < 0 ∨ k ≤ j.toNatClampNeg)) (hv : f j.toNatClampNeg = v) : arun X (n + 1) d M pc L (.int j :: .retAddr x :: r) h = arun X n d M (pc + 1) L (.int v :: r) h := by
  rw [arun_p hf rfl]
  subst hv
  simp only [aX1, hX, if_neg hj]
theorem r_aald4 {o k : Nat} {j : Int32} {f : Nat → Option Nat} {v : Value} (hf : aF pc M.2.2.2.2.2.2.2 = some (pc, .aaload, len, a, b)) (ho : h.1[o]? = some (.inl (4, k, .inr (.inr (.inr (.inr f)))))) (hj : ¬ (j < 0 ∨ k ≤ j.toNatClampNeg)) (hv : arf (f j.toNatClampNeg) = v) : arun X (n + 1) d M pc L (.int j :: .ref o :: r) h = arun X n d M (pc + 1) L (v :: r) h := by
  rw [arun_p hf rfl]
  subst hv
  simp only [aX1, aarR, ho, if_neg hj, show (Nat.beq 4 4 || Nat.beq 4 5) = true from rfl, show (Nat.beq 5 4 || Nat.beq 5 5) = true from rfl, cond_true]
theorem r_aald5 {o k : Nat} {j : Int32} {f : Nat → Option Nat} {v : Value} (hf : aF pc M.2.2.2.2.2.2.2 = some (pc, .aaload, len, a, b)) (ho : h.1[o]? = some (.inl (5, k, .inr (.inr (.inr (.inr f)))))) (hj : ¬ (j < 0 ∨ k ≤ j.toNatClampNeg)) (hv : arf (f j.toNatClampNeg) = v) : arun X (n + 1) d M pc L (.int j :: .ref o :: r) h = arun X n d M (pc + 1) L (v :: r) h := by
  rw [arun_p hf rfl]
  subst hv
  simp only [aX1, aarR, ho, if_neg hj, show (Nat.beq 4 4 || Nat.beq 4 5) = true from rfl, show (Nat.beq 5 4 || Nat.beq 5 5) = true from rfl, cond_true]
theorem r_iast {o k : Nat} {j : Int32} {f : Nat → Int32} {x : Int32} {h' : aH} (hf : aF pc M.2.2.2.2.2.2.2 = some (pc, .iastore, len, a, b)) (ho : h.1[o]? = some (.inl (0, k, .inl f))) (hj : ¬ (j < 0 ∨ k ≤ j.toNatClampNeg)) (hh : (h.1.set o (.inl (0, k, .inl (upd f j.toNatClampNeg x))), h.2) = h') : arun X (n + 1) d M pc L (.int x :: .int j :: .ref o :: r) h = arun X n d M (pc + 1) L r h' := by
  rw [arun_p hf rfl]
  subst hh
  simp only [aX1, aarI, aarJ, ho, if_neg hj, show Nat.beq 0 0 = true from rfl, cond_true]
theorem r_zast {o k : Nat} {j : Int32} {f : Nat → Int32} {x : Int32} {h' : aH} (hf : aF pc M.2.2.2.2.2.2.2 = some (pc, .bastore, len, a, b)) (ho : h.1[o]? = some (.inl (2, k, .inl f))) (hj : ¬ (j < 0 ∨ k ≤ j.toNatClampNeg)) (hh : (h.1.set o (.inl (2, k, .inl (upd f j.toNatClampNeg (x &&& 1)))), h.2) = h') : arun X (n + 1) d M pc L (.int x :: .int j :: .ref o :: r) h = arun X n d M (pc + 1) L r h' := by
  rw [arun_p hf rfl]
  subst hh
  simp only [aX1, aarI, aarJ, ho, if_neg hj, show Nat.beq 0 0 = true from rfl, cond_true]
theorem r_bast {o k : Nat} {j : Int32} {f : Nat → Int32} {x : Int32} {h' : aH} (hf : aF pc M.2.2.2.2.2.2.2 = some (pc, .bastore, len, a, b)) (ho : h.1[o]? = some (.inl (3, k, .inl f))) (hj : ¬ (j < 0 ∨ k ≤ j.toNatClampNeg)) (hh : (h.1.set o (.inl (3, k, .inl (upd f j.toNatClampNeg x.toInt8.toInt32))), h.2) = h') : arun X (n + 1) d M pc L (.int x :: .int j :: .ref o :: r) h = arun X n d M (pc + 1) L r h' := by
  rw [arun_p hf rfl]
  subst hh
  simp only [aX1, aarI, aarJ, ho, if_neg hj, show Nat.beq 0 0 = true from rfl, cond_true]
theorem r_last {o k : Nat} {j : Int32} {f : Nat → Int64} {x : Int64} {h' : aH} (hf : aF pc M.2.2.2.2.2.2.2 = some (pc, .lastore, len, a, b)) (ho : h.1[o]? = some (.inl (1, k, .inr (.inl f)))) (hj : ¬ (j < 0 ∨ k ≤ j.toNatClampNeg)) (hh : (h.1.set o (.inl (1, k, .inr (.inl (vp_updL f j.toNatClampNeg x)))), h.2) = h') : arun X (n + 1) d M pc L (.long x :: .int j :: .ref o :: r) h = arun X n d M (pc + 1) L r h' := by
  rw [arun_p hf rfl]
  subst hh
  simp only [aX1, aarI, aarJ, ho, if_neg hj, show Nat.beq 0 0 = true from rfl, cond_true]
theorem r_aast {o k q : Nat} {j : Int32} {f : Nat → Option Nat} {fs : List Value} {h' : aH} (hf : aF pc M.2.2.2.2.2.2.2 = some (pc, .aastore, len, a, b)) (ho : h.1[o]? = some (.inl (4, k, .inr (.inr (.inr (.inr f)))))) (hq : h.1[q]? = some (.inr (8, fs))) (hj : ¬ (j < 0 ∨ k ≤ j.toNatClampNeg)) (hh : (h.1.set o (.inl (4, k, .inr (.inr (.inr (.inr (va_up f j.toNatClampNeg (some q))))))), h.2) = h') : arun X (n + 1) d M pc L (.ref q :: .int j :: .ref o :: r) h = arun X n d M (pc + 1) L r h' := by
  rw [arun_p hf rfl]
  subst hh
  simp only [aX1, aarR, aobj, ho, hq, if_neg hj, show Nat.beq 4 4 = true from rfl, show Nat.beq 8 8 = true from rfl, cond_true]
theorem r_new {ix o : Nat} {h' : aH} (hf : aF pc M.2.2.2.2.2.2.2 = some (pc, (.new ix), len, a, b)) (ho : h.1.length = o) (hh : (h.1 ++ [.inr (a, (List.range (zN a)).map (fun c => defaultValue (zY a c)))], h.2 + zN a) = h') : arun X (n + 1) d M pc L r h = arun X n d M (pc + 3) L (.ref o :: r) h' := by
  rw [arun_p hf rfl]
  subst ho
  subst hh
  rfl
theorem r_newa {o : Nat} {t : ArrayType} {x : Int32} {h' : aH} (hf : aF pc M.2.2.2.2.2.2.2 = some (pc, (.newarray t), len, a, b)) (hx : ¬ (x < 0 ∨ 100000 < x)) (ho : h.1.length = o) (hh : (h.1 ++ [.inl (a, x.toNatClampNeg, azero a)], h.2 + x.toNatClampNeg) = h') : arun X (n + 1) d M pc L (.int x :: r) h = arun X n d M (pc + 2) L (.ref o :: r) h' := by
  rw [arun_p hf rfl]
  subst ho
  subst hh
  simp only [aX1, tI, if_neg hx]
theorem r_newr {ix o : Nat} {x : Int32} {h' : aH} (hf : aF pc M.2.2.2.2.2.2.2 = some (pc, (.anewarray ix), len, a, b)) (hx : ¬ (x < 0 ∨ 100000 < x)) (ho : h.1.length = o) (hh : (h.1 ++ [.inl (a, x.toNatClampNeg, .inr (.inr (.inr (.inr (fun _ => none)))))], h.2 + x.toNatClampNeg) = h') : arun X (n + 1) d M pc L (.int x :: r) h = arun X n d M (pc + 3) L (.ref o :: r) h' := by
  rw [arun_p hf rfl]
  subst ho
  subst hh
  simp only [aX1, tI, if_neg hx]
theorem r_ireturn {x : Int32} (hf : aF pc M.2.2.2.2.2.2.2 = some (pc, .ireturn, len, a, b)) (hr : M.2.2.2.2.1 = some .int) : arun X (n + 1) d M pc L [.int x] h = some (some (.int x), h) := by
  conv => lhs; unfold arun
  simp only [hf]
  simp only [aretI, hr]
theorem r_zreturn {x : Int32} (hf : aF pc M.2.2.2.2.2.2.2 = some (pc, .ireturn, len, a, b)) (hr : M.2.2.2.2.1 = some .boolean) (hx : x = 0 ∨ x = 1) : arun X (n + 1) d M pc L [.int x] h = some (some (.int x), h) := by
  conv => lhs; unfold arun
  simp only [hf]
  simp only [aretI, hr, if_pos hx]
theorem r_lreturn {x : Int64} (hf : aF pc M.2.2.2.2.2.2.2 = some (pc, .lreturn, len, a, b)) (hr : M.2.2.2.2.1 = some .long) : arun X (n + 1) d M pc L [.long x] h = some (some (.long x), h) := by
  conv => lhs; unfold arun
  simp only [hf]
  simp only [hr]
theorem r_areturn {x : Nat} {C : String} (hf : aF pc M.2.2.2.2.2.2.2 = some (pc, .areturn, len, a, b)) (hr : M.2.2.2.2.1 = some (.object C)) : arun X (n + 1) d M pc L [.ref x] h = some (some (.ref x), h) := by
  conv => lhs; unfold arun
  simp only [hf]
  simp only [hr]
theorem r_vreturn  (hf : aF pc M.2.2.2.2.2.2.2 = some (pc, .return_, len, a, b)) (hr : M.2.2.2.2.1 = none) : arun X (n + 1) d M pc L [] h = some (none, h) := by
  conv => lhs; unfold arun
  simp only [hf]
  simp only [hr]
theorem acut_eq {k : Nat} {as : List Value} {f : List Value → List Value → Option aR} (hn : as.length = k) : acut k (as.reverse ++ r) f = f as r := by
  subst hn
  unfold acut
  rw [show Nat.ble as.length (as.reverse ++ r).length = true from by rw [Nat.ble_eq]; simp]
  simp only [cond_true]
  congr 1
  · rw [List.take_append_of_le_length (by simp), List.take_of_length_le (by simp), List.reverse_reverse]
  · rw [List.drop_append_of_le_length (by simp), List.drop_of_length_le (by simp), List.nil_append]
theorem aback_eq {d' : Nat} {callee : Nat → Option aR} {k : List Value → aH → Option aR} {v : Option Value} {h1 : aH} (h8 : Nat.ble (aws r) 8 = true) (hc : callee d' = some (v, h1)) : aback (d' + 1) r callee k = k (v.toList ++ r) h1 := by
  unfold aback
  simp only [h8, cond_true, hc]
theorem r_stat {ix : Nat} {Y : aM} {as st : List Value} {v : Option Value} {h1 : aH} {L1 : aL} (hf : aF pc M.2.2.2.2.2.2.2 = some (pc, (.invokestatic ix), len, a, b)) (ha : (Nat.beq a 1002 || Nat.ble 1010 a) = false) (hY : zmt[a]? = some Y) (hk : Y.2.2.2.2.2.2.1 = 1) (hst : st = as.reverse ++ r) (hn : as.length = Y.2.2.2.2.2.1) (hw : Nat.ble (aws as) Y.2.2.2.1 = true) (h8 : Nat.ble (aws r) 8 = true) (hL : aE Y.2.2.2.1 as = L1) (hc : arun X n d Y 0 L1 [] h = some (v, h1)) : arun X (n + 1) (d + 1) M pc L st h = arun X n (d + 1) M (pc + 3) L (v.toList ++ r) h1 := by
  conv => lhs; unfold arun
  simp only [hf]
  subst hst
  subst hL
  obtain ⟨ha1, ha2⟩ := Bool.or_eq_false_iff.mp ha
  simp only [ha1, ha2, cond_false, hY, show Nat.beq Y.2.2.2.2.2.2.1 1 = true from by rw [hk]; rfl, cond_true, acut_eq hn, aent, hw]
  exact aback_eq h8 hc
theorem r_virt {ix o : Nat} {Y : aM} {as st : List Value} {v : Option Value} {h1 : aH} {L1 : aL} {fs : List Value} (hf : aF pc M.2.2.2.2.2.2.2 = some (pc, (.invokevirtual ix), len, a, b)) (ho : h.1[o]? = some (.inr (Y.1, fs))) (hY : zmt[a]? = some Y) (hk : Y.2.2.2.2.2.2.1 = 0) (hst : st = as.reverse ++ .ref o :: r) (hn : as.length = Y.2.2.2.2.2.1) (hw : Nat.ble (aws (.ref o :: as)) Y.2.2.2.1 = true) (h8 : Nat.ble (aws r) 8 = true) (hL : aE Y.2.2.2.1 (.ref o :: as) = L1) (hc : arun X n d Y 0 L1 [] h = some (v, h1)) : arun X (n + 1) (d + 1) M pc L st h = arun X n (d + 1) M (pc + 3) L (v.toList ++ r) h1 := by
  conv => lhs; unfold arun
  simp only [hf]
  subst hst
  subst hL
  have ha : Nat.beq a 1001 = false := by
    cases q : Nat.beq a 1001 with
    | false => rfl
    | true =>
      have := Nat.eq_of_beq_eq_true q
      subst this
      rw [show zmt[1001]? = none from by decide +kernel] at hY
      cases hY
  simp only [ha, cond_false, hY, show Nat.beq Y.2.2.2.2.2.2.1 0 = true from by rw [hk]; rfl, cond_true, acut_eq hn, aobj, ho, Nat.beq_refl, aent, hw]
  exact aback_eq h8 hc
theorem r_init {ix o : Nat} {Y : aM} {as st : List Value} {v : Option Value} {h1 : aH} {L1 : aL} (hf : aF pc M.2.2.2.2.2.2.2 = some (pc, (.invokespecial ix), len, a, b)) (ha : Nat.beq a 1000 = false) (hY : zmt[a]? = some Y) (hk : Y.2.2.2.2.2.2.1 = 2) (hst : st = as.reverse ++ .ref o :: r) (hn : as.length = Y.2.2.2.2.2.1) (hw : Nat.ble (aws (.ref o :: as)) Y.2.2.2.1 = true) (h8 : Nat.ble (aws r) 8 = true) (hL : aE Y.2.2.2.1 (.ref o :: as) = L1) (hc : arun X n d Y 0 L1 [] h = some (v, h1)) : arun X (n + 1) (d + 1) M pc L st h = arun X n (d + 1) M (pc + 3) L (v.toList ++ r) h1 := by
  conv => lhs; unfold arun
  simp only [hf]
  subst hst
  subst hL
  simp only [ha, cond_false, hY, show Nat.beq Y.2.2.2.2.2.2.1 2 = true from by rw [hk]; rfl, cond_true, acut_eq hn, aent, hw]
  exact aback_eq h8 hc
theorem r_obj {ix o : Nat} (hf : aF pc M.2.2.2.2.2.2.2 = some (pc, (.invokespecial ix), len, a, b)) (ha : a = 1000) (h8 : Nat.ble (aws r) 8 = true) : arun X (n + 1) (d + 1) M pc L (.ref o :: r) h = arun X n (d + 1) M (pc + 3) L r h := by
  conv => lhs; unfold arun
  simp only [hf]
  subst ha
  simp only [show Nat.beq 1000 1000 = true from rfl, cond_true]
  exact aback_eq (v := none) h8 rfl
theorem r_m1010 {ix : Nat} {x y v : Int32} (hf : aF pc M.2.2.2.2.2.2.2 = some (pc, (.invokestatic ix), len, a, b)) (ha : a = 1010) (h8 : Nat.ble (aws r) 8 = true) (hv : (if x < y then y else x) = v) : arun X (n + 1) (d + 1) M pc L (.int y :: .int x :: r) h = arun X n (d + 1) M (pc + 3) L (.int v :: r) h := by
  conv => lhs; unfold arun
  simp only [hf]
  subst ha
  subst hv
  simp only [show Nat.beq 1010 1002 = false from rfl, cond_false, show Nat.ble 1010 1010 = true from rfl, cond_true, amath, tI, tII, tJJ, h8]
theorem r_m1011 {ix : Nat} {x y v : Int32} (hf : aF pc M.2.2.2.2.2.2.2 = some (pc, (.invokestatic ix), len, a, b)) (ha : a = 1011) (h8 : Nat.ble (aws r) 8 = true) (hv : (if y < x then y else x) = v) : arun X (n + 1) (d + 1) M pc L (.int y :: .int x :: r) h = arun X n (d + 1) M (pc + 3) L (.int v :: r) h := by
  conv => lhs; unfold arun
  simp only [hf]
  subst ha
  subst hv
  simp only [show Nat.beq 1011 1002 = false from rfl, cond_false, show Nat.ble 1010 1011 = true from rfl, cond_true, amath, tI, tII, tJJ, h8]
theorem r_m1012 {ix : Nat} {x v : Int32} (hf : aF pc M.2.2.2.2.2.2.2 = some (pc, (.invokestatic ix), len, a, b)) (ha : a = 1012) (h8 : Nat.ble (aws r) 8 = true) (hv : (if 0 ≤ x then x else 0 - x) = v) : arun X (n + 1) (d + 1) M pc L (.int x :: r) h = arun X n (d + 1) M (pc + 3) L (.int v :: r) h := by
  conv => lhs; unfold arun
  simp only [hf]
  subst ha
  subst hv
  simp only [show Nat.beq 1012 1002 = false from rfl, cond_false, show Nat.ble 1010 1012 = true from rfl, cond_true, amath, tI, tII, tJJ, h8]
theorem r_m1013 {ix : Nat} {x y v : Int64} (hf : aF pc M.2.2.2.2.2.2.2 = some (pc, (.invokestatic ix), len, a, b)) (ha : a = 1013) (h8 : Nat.ble (aws r) 8 = true) (hv : (if y < x then x else y) = v) : arun X (n + 1) (d + 1) M pc L (.long y :: .long x :: r) h = arun X n (d + 1) M (pc + 3) L (.long v :: r) h := by
  conv => lhs; unfold arun
  simp only [hf]
  subst ha
  subst hv
  simp only [show Nat.beq 1013 1002 = false from rfl, cond_false, show Nat.ble 1010 1013 = true from rfl, cond_true, amath, tI, tII, tJJ, h8]
theorem r_m1014 {ix : Nat} {x y v : Int64} (hf : aF pc M.2.2.2.2.2.2.2 = some (pc, (.invokestatic ix), len, a, b)) (ha : a = 1014) (h8 : Nat.ble (aws r) 8 = true) (hv : (if y < x then y else x) = v) : arun X (n + 1) (d + 1) M pc L (.long y :: .long x :: r) h = arun X n (d + 1) M (pc + 3) L (.long v :: r) h := by
  conv => lhs; unfold arun
  simp only [hf]
  subst ha
  subst hv
  simp only [show Nat.beq 1014 1002 = false from rfl, cond_false, show Nat.ble 1010 1014 = true from rfl, cond_true, amath, tI, tII, tJJ, h8]
theorem r_cp3 {ix o1 o2 n0 n1 : Nat} {sp dp k : Int32} {f g : Nat → Int32} {h' : aH} (hf : aF pc M.2.2.2.2.2.2.2 = some (pc, (.invokestatic ix), len, a, b)) (ha : a = 1002) (h0 : h.1[o1]? = some (.inl (3, n0, .inl f))) (h1 : h.1[o2]? = some (.inl (3, n1, .inl g))) (hq : ¬ (sp < 0 ∨ dp < 0 ∨ k < 0 ∨ n0 < sp.toNatClampNeg + k.toNatClampNeg ∨ n1 < dp.toNatClampNeg + k.toNatClampNeg)) (hft : afit f sp.toNatClampNeg k.toNatClampNeg = true) (h8 : Nat.ble (aws r) 8 = true) (hh : (h.1.set o2 (.inl (3, n1, .inl (va_cpy f g sp.toNatClampNeg dp.toNatClampNeg k.toNatClampNeg))), h.2) = h') : arun X (n + 1) (d + 1) M pc L (.int k :: .int dp :: .ref o2 :: .int sp :: .ref o1 :: r) h = arun X n (d + 1) M (pc + 3) L r h' := by
  conv => lhs; unfold arun
  simp only [hf]
  subst ha
  subst hh
  simp only [show Nat.beq 1002 1002 = true from rfl, cond_true, acopy, h8, h0, h1, if_neg hq, hft]
theorem r_cp1 {ix o1 o2 n0 n1 : Nat} {sp dp k : Int32} {f g : Nat → Int64} {h' : aH} (hf : aF pc M.2.2.2.2.2.2.2 = some (pc, (.invokestatic ix), len, a, b)) (ha : a = 1002) (h0 : h.1[o1]? = some (.inl (1, n0, .inr (.inl f)))) (h1 : h.1[o2]? = some (.inl (1, n1, .inr (.inl g)))) (hq : ¬ (sp < 0 ∨ dp < 0 ∨ k < 0 ∨ n0 < sp.toNatClampNeg + k.toNatClampNeg ∨ n1 < dp.toNatClampNeg + k.toNatClampNeg)) (h8 : Nat.ble (aws r) 8 = true) (hh : (h.1.set o2 (.inl (1, n1, .inr (.inl (va_cpy f g sp.toNatClampNeg dp.toNatClampNeg k.toNatClampNeg)))), h.2) = h') : arun X (n + 1) (d + 1) M pc L (.int k :: .int dp :: .ref o2 :: .int sp :: .ref o1 :: r) h = arun X n (d + 1) M (pc + 3) L r h' := by
  conv => lhs; unfold arun
  simp only [hf]
  subst ha
  subst hh
  simp only [show Nat.beq 1002 1002 = true from rfl, cond_true, acopy, h8, h0, h1, if_neg hq]
theorem r_cp0 {ix o1 o2 n0 n1 : Nat} {sp dp k : Int32} {f g : Nat → Int32} {h' : aH} (hf : aF pc M.2.2.2.2.2.2.2 = some (pc, (.invokestatic ix), len, a, b)) (ha : a = 1002) (h0 : h.1[o1]? = some (.inl (0, n0, .inl f))) (h1 : h.1[o2]? = some (.inl (0, n1, .inl g))) (hq : ¬ (sp < 0 ∨ dp < 0 ∨ k < 0 ∨ n0 < sp.toNatClampNeg + k.toNatClampNeg ∨ n1 < dp.toNatClampNeg + k.toNatClampNeg)) (h8 : Nat.ble (aws r) 8 = true) (hh : (h.1.set o2 (.inl (0, n1, .inl (va_cpy f g sp.toNatClampNeg dp.toNatClampNeg k.toNatClampNeg))), h.2) = h') : arun X (n + 1) (d + 1) M pc L (.int k :: .int dp :: .ref o2 :: .int sp :: .ref o1 :: r) h = arun X n (d + 1) M (pc + 3) L r h' := by
  conv => lhs; unfold arun
  simp only [hf]
  subst ha
  subst hh
  simp only [show Nat.beq 1002 1002 = true from rfl, cond_true, acopy, h8, h0, h1, if_neg hq]
theorem r_aast5 {o k q n' : Nat} {j : Int32} {f : Nat → Option Nat} {g : Nat → Int32} {h' : aH} (hf : aF pc M.2.2.2.2.2.2.2 = some (pc, .aastore, len, a, b)) (ho : h.1[o]? = some (.inl (5, k, .inr (.inr (.inr (.inr f)))))) (hq : h.1[q]? = some (.inl (0, n', .inl g))) (hj : ¬ (j < 0 ∨ k ≤ j.toNatClampNeg)) (hh : (h.1.set o (.inl (5, k, .inr (.inr (.inr (.inr (va_up f j.toNatClampNeg (some q))))))), h.2) = h') : arun X (n + 1) d M pc L (.ref q :: .int j :: .ref o :: r) h = arun X n d M (pc + 1) L r h' := by
  rw [arun_p hf rfl]
  subst hh
  simp only [aX1, aarR, aarI, ho, hq, show Nat.beq 5 4 = false from rfl, show Nat.beq 5 5 = true from rfl, Nat.beq_refl, cond_false, cond_true, if_neg hj]
theorem r_ix {ix : Nat} {c v : Int32} (hf : aF pc M.2.2.2.2.2.2.2 = some (pc, (.invokevirtual ix), len, a, b)) (ha : a = 1001) (h8 : Nat.ble (aws r) 8 = true) (hv : zIx c = v) : arun X (n + 1) (d + 5) M pc L (.int c :: .retAddr 2 :: r) h = arun X n (d + 5) M (pc + 3) L (.int v :: r) h := by
  conv => lhs; unfold arun
  simp only [hf]
  subst ha
  subst hv
  simp only [show Nat.beq 1001 1001 = true from rfl, cond_true, aixof, h8]
end RZ

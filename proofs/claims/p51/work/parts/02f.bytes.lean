-- ===== the bytes of an instruction: a quick check that a list is what the bytes decode to (by program) =====
def by_ (code : ByteArray) (p v : Nat) : Prop := ∃ h : p < code.size, (code[p]'h).toNat = v
theorem u1_by {code : ByteArray} {p v : Nat} (h : by_ code p v) : (Jvm.ClassFile.Reader.u1 : Jvm.ClassFile.Decoder Nat) code p = .ok (v, p + 1) := by
  obtain ⟨h1, h2⟩ := h
  subst h2
  unfold Jvm.ClassFile.Reader.u1
  show (dite (p < code.size) _ _ : Jvm.ClassFile.Decoder Nat) code p = _
  rw [dif_pos h1]
  rfl
theorem u2_by {code : ByteArray} {p a b : Nat} (h1 : by_ code p a) (h2 : by_ code (p + 1) b) : (Jvm.ClassFile.Reader.u2 : Jvm.ClassFile.Decoder Nat) code p = .ok (a * 256 + b, p + 2) := by
  unfold Jvm.ClassFile.Reader.u2
  show Except.bind ((Jvm.ClassFile.Reader.u1 : Jvm.ClassFile.Decoder Nat) code p) _ = _
  rw [u1_by h1]
  show Except.bind ((Jvm.ClassFile.Reader.u1 : Jvm.ClassFile.Decoder Nat) code (p + 1)) _ = _
  rw [u1_by h2]
  rfl
theorem s1_by {code : ByteArray} {p a : Nat} (h1 : by_ code p a) : (Jvm.ClassFile.Reader.s1 : Jvm.ClassFile.Decoder Int) code p = .ok (Jvm.ClassFile.Reader.signed 8 a, p + 1) := by
  unfold Jvm.ClassFile.Reader.s1
  show Except.bind ((Jvm.ClassFile.Reader.u1 : Jvm.ClassFile.Decoder Nat) code p) _ = _
  rw [u1_by h1]
  rfl
theorem s2_by {code : ByteArray} {p a b : Nat} (h1 : by_ code p a) (h2 : by_ code (p + 1) b) : (Jvm.ClassFile.Reader.s2 : Jvm.ClassFile.Decoder Int) code p = .ok (Jvm.ClassFile.Reader.signed 16 (a * 256 + b), p + 2) := by
  unfold Jvm.ClassFile.Reader.s2
  show Except.bind ((Jvm.ClassFile.Reader.u2 : Jvm.ClassFile.Decoder Nat) code p) _ = _
  rw [u2_by h1 h2]
  rfl
theorem dec_of {code : ByteArray} {pc n : Nat} {i : Instr} (h : (Jvm.ClassFile.Decoder.instr pc) code pc = .ok (i, pc + n)) : decode code pc = .ok (i, n) := by
  unfold decode Jvm.ClassFile.Reader.runAt
  show Except.bind ((Jvm.ClassFile.Decoder.instr pc) code pc) _ = _
  rw [h]
  show Except.ok (i, pc + n - pc) = _
  rw [Nat.add_sub_cancel_left]
def e1 (op n : Nat) : List Nat := bif Nat.blt n 256 then [op, n] else []
def e2 (op n : Nat) : List Nat := bif Nat.blt n 65536 then [op, n / 256, n % 256] else []
def t1 (op : Nat) (z : Int) : List Nat := match z with
  | .ofNat k => bif Nat.blt k 128 then [op, k] else []
  | .negSucc k => bif Nat.blt k 128 then [op, 255 - k] else []
def t2 (op : Nat) (z : Int) : List Nat := match z with
  | .ofNat k => bif Nat.blt k 32768 then [op, k / 256, k % 256] else []
  | .negSucc k => bif Nat.blt k 32768 then [op, (65535 - k) / 256, (65535 - k) % 256] else []
def enc (i : Instr) : List Nat := match i with
  | .aaload => [50]
  | .aastore => [83]
  | .aconst_null => [1]
  | .areturn => [176]
  | .arraylength => [190]
  | .athrow => [191]
  | .baload => [51]
  | .bastore => [84]
  | .dup => [89]
  | .dup2 => [92]
  | .dup_x1 => [90]
  | .i2b => [145]
  | .i2c => [146]
  | .i2l => [133]
  | .i2s => [147]
  | .iadd => [96]
  | .iaload => [46]
  | .iand => [126]
  | .iastore => [79]
  | .idiv => [108]
  | .imul => [104]
  | .ineg => [116]
  | .ior => [128]
  | .irem => [112]
  | .ireturn => [172]
  | .ishl => [120]
  | .ishr => [122]
  | .isub => [100]
  | .iushr => [124]
  | .ixor => [130]
  | .l2i => [136]
  | .ladd => [97]
  | .laload => [47]
  | .land => [127]
  | .lastore => [80]
  | .lcmp => [148]
  | .ldiv => [109]
  | .lmul => [105]
  | .lor => [129]
  | .lrem => [113]
  | .lreturn => [173]
  | .lshl => [121]
  | .lsub => [101]
  | .pop => [87]
  | .pop2 => [88]
  | .return_ => [177]
  | .iload_n n => [26 + (n : Nat)]
  | .lload_n n => [30 + (n : Nat)]
  | .aload_n n => [42 + (n : Nat)]
  | .istore_n n => [59 + (n : Nat)]
  | .lstore_n n => [63 + (n : Nat)]
  | .astore_n n => [75 + (n : Nat)]
  | .iload n => e1 21 n
  | .lload n => e1 22 n
  | .aload n => e1 25 n
  | .istore n => e1 54 n
  | .lstore n => e1 55 n
  | .astore n => e1 58 n
  | .ldc n => e1 18 n
  | .ldc_w n => e2 19 n
  | .ldc2_w n => e2 20 n
  | .getfield n => e2 180 n
  | .putfield n => e2 181 n
  | .getstatic n => e2 178 n
  | .invokevirtual n => e2 182 n
  | .invokespecial n => e2 183 n
  | .invokestatic n => e2 184 n
  | .new n => e2 187 n
  | .anewarray n => e2 189 n
  | .ifCond .eq z => t2 153 z
  | .ifCond .ne z => t2 154 z
  | .ifCond .lt z => t2 155 z
  | .ifCond .ge z => t2 156 z
  | .ifCond .gt z => t2 157 z
  | .ifCond .le z => t2 158 z
  | .if_icmp .eq z => t2 159 z
  | .if_icmp .ne z => t2 160 z
  | .if_icmp .lt z => t2 161 z
  | .if_icmp .ge z => t2 162 z
  | .if_icmp .gt z => t2 163 z
  | .if_icmp .le z => t2 164 z
  | .goto z => t2 167 z
  | .ifnull z => t2 198 z
  | .ifnonnull z => t2 199 z
  | .bipush z => t1 16 z
  | .sipush z => t2 17 z
  | .iinc n z => (match e1 132 n, t1 0 z with
    | [a, b], [_, c] => [a, b, c]
    | _, _ => [])
  | .iconst z => (match z with
    | .negSucc 0 => [2]
    | .negSucc (_ + 1) => []
    | .ofNat k => bif Nat.blt k 6 then [3 + k] else [])
  | .lconst n => [9 + (n : Nat)]
  | .newarray .boolean => [188, 4]
  | .newarray .byte => [188, 8]
  | .newarray .int => [188, 10]
  | .newarray .long => [188, 11]
  | _ => []
section EN
variable {code : ByteArray} {pc : Nat}
theorem sg8 {k : Nat} (h : k < 128) : Jvm.ClassFile.Reader.signed 8 k = Int.ofNat k := by
  unfold Jvm.ClassFile.Reader.signed
  rw [if_pos (by omega)]; rfl
theorem sg8n {k : Nat} (h : k < 128) : Jvm.ClassFile.Reader.signed 8 (255 - k) = Int.negSucc k := by
  unfold Jvm.ClassFile.Reader.signed
  rw [if_neg (by omega)]
  have : ((2 ^ 8 : Nat) : Int) = 256 := rfl
  rw [this]
  omega
theorem sg16 {k : Nat} (h : k < 32768) : Jvm.ClassFile.Reader.signed 16 (k / 256 * 256 + k % 256) = Int.ofNat k := by
  unfold Jvm.ClassFile.Reader.signed
  rw [show k / 256 * 256 + k % 256 = k by omega, if_pos (by omega)]; rfl
theorem sg16n {k : Nat} (h : k < 32768) : Jvm.ClassFile.Reader.signed 16 ((65535 - k) / 256 * 256 + (65535 - k) % 256) = Int.negSucc k := by
  unfold Jvm.ClassFile.Reader.signed
  rw [show (65535 - k) / 256 * 256 + (65535 - k) % 256 = 65535 - k by omega, if_neg (by omega)]
  have : ((2 ^ 16 : Nat) : Int) = 65536 := rfl
  rw [this]
  omega
theorem en_aaload (h0 : by_ code pc 50) : decode code pc = .ok (.aaload, 1) := by
  refine dec_of ?_
  unfold Jvm.ClassFile.Decoder.instr
  show Except.bind ((Jvm.ClassFile.Reader.u1 : Jvm.ClassFile.Decoder Nat) code pc) _ = _
  rw [u1_by h0]
  rfl
theorem en_aastore (h0 : by_ code pc 83) : decode code pc = .ok (.aastore, 1) := by
  refine dec_of ?_
  unfold Jvm.ClassFile.Decoder.instr
  show Except.bind ((Jvm.ClassFile.Reader.u1 : Jvm.ClassFile.Decoder Nat) code pc) _ = _
  rw [u1_by h0]
  rfl
theorem en_aconst_null (h0 : by_ code pc 1) : decode code pc = .ok (.aconst_null, 1) := by
  refine dec_of ?_
  unfold Jvm.ClassFile.Decoder.instr
  show Except.bind ((Jvm.ClassFile.Reader.u1 : Jvm.ClassFile.Decoder Nat) code pc) _ = _
  rw [u1_by h0]
  rfl
theorem en_areturn (h0 : by_ code pc 176) : decode code pc = .ok (.areturn, 1) := by
  refine dec_of ?_
  unfold Jvm.ClassFile.Decoder.instr
  show Except.bind ((Jvm.ClassFile.Reader.u1 : Jvm.ClassFile.Decoder Nat) code pc) _ = _
  rw [u1_by h0]
  rfl
theorem en_arraylength (h0 : by_ code pc 190) : decode code pc = .ok (.arraylength, 1) := by
  refine dec_of ?_
  unfold Jvm.ClassFile.Decoder.instr
  show Except.bind ((Jvm.ClassFile.Reader.u1 : Jvm.ClassFile.Decoder Nat) code pc) _ = _
  rw [u1_by h0]
  rfl
theorem en_athrow (h0 : by_ code pc 191) : decode code pc = .ok (.athrow, 1) := by
  refine dec_of ?_
  unfold Jvm.ClassFile.Decoder.instr
  show Except.bind ((Jvm.ClassFile.Reader.u1 : Jvm.ClassFile.Decoder Nat) code pc) _ = _
  rw [u1_by h0]
  rfl
theorem en_baload (h0 : by_ code pc 51) : decode code pc = .ok (.baload, 1) := by
  refine dec_of ?_
  unfold Jvm.ClassFile.Decoder.instr
  show Except.bind ((Jvm.ClassFile.Reader.u1 : Jvm.ClassFile.Decoder Nat) code pc) _ = _
  rw [u1_by h0]
  rfl
theorem en_bastore (h0 : by_ code pc 84) : decode code pc = .ok (.bastore, 1) := by
  refine dec_of ?_
  unfold Jvm.ClassFile.Decoder.instr
  show Except.bind ((Jvm.ClassFile.Reader.u1 : Jvm.ClassFile.Decoder Nat) code pc) _ = _
  rw [u1_by h0]
  rfl
theorem en_dup (h0 : by_ code pc 89) : decode code pc = .ok (.dup, 1) := by
  refine dec_of ?_
  unfold Jvm.ClassFile.Decoder.instr
  show Except.bind ((Jvm.ClassFile.Reader.u1 : Jvm.ClassFile.Decoder Nat) code pc) _ = _
  rw [u1_by h0]
  rfl
theorem en_dup2 (h0 : by_ code pc 92) : decode code pc = .ok (.dup2, 1) := by
  refine dec_of ?_
  unfold Jvm.ClassFile.Decoder.instr
  show Except.bind ((Jvm.ClassFile.Reader.u1 : Jvm.ClassFile.Decoder Nat) code pc) _ = _
  rw [u1_by h0]
  rfl
theorem en_dup_x1 (h0 : by_ code pc 90) : decode code pc = .ok (.dup_x1, 1) := by
  refine dec_of ?_
  unfold Jvm.ClassFile.Decoder.instr
  show Except.bind ((Jvm.ClassFile.Reader.u1 : Jvm.ClassFile.Decoder Nat) code pc) _ = _
  rw [u1_by h0]
  rfl
theorem en_i2b (h0 : by_ code pc 145) : decode code pc = .ok (.i2b, 1) := by
  refine dec_of ?_
  unfold Jvm.ClassFile.Decoder.instr
  show Except.bind ((Jvm.ClassFile.Reader.u1 : Jvm.ClassFile.Decoder Nat) code pc) _ = _
  rw [u1_by h0]
  rfl
theorem en_i2c (h0 : by_ code pc 146) : decode code pc = .ok (.i2c, 1) := by
  refine dec_of ?_
  unfold Jvm.ClassFile.Decoder.instr
  show Except.bind ((Jvm.ClassFile.Reader.u1 : Jvm.ClassFile.Decoder Nat) code pc) _ = _
  rw [u1_by h0]
  rfl
theorem en_i2l (h0 : by_ code pc 133) : decode code pc = .ok (.i2l, 1) := by
  refine dec_of ?_
  unfold Jvm.ClassFile.Decoder.instr
  show Except.bind ((Jvm.ClassFile.Reader.u1 : Jvm.ClassFile.Decoder Nat) code pc) _ = _
  rw [u1_by h0]
  rfl
theorem en_i2s (h0 : by_ code pc 147) : decode code pc = .ok (.i2s, 1) := by
  refine dec_of ?_
  unfold Jvm.ClassFile.Decoder.instr
  show Except.bind ((Jvm.ClassFile.Reader.u1 : Jvm.ClassFile.Decoder Nat) code pc) _ = _
  rw [u1_by h0]
  rfl
theorem en_iadd (h0 : by_ code pc 96) : decode code pc = .ok (.iadd, 1) := by
  refine dec_of ?_
  unfold Jvm.ClassFile.Decoder.instr
  show Except.bind ((Jvm.ClassFile.Reader.u1 : Jvm.ClassFile.Decoder Nat) code pc) _ = _
  rw [u1_by h0]
  rfl
theorem en_iaload (h0 : by_ code pc 46) : decode code pc = .ok (.iaload, 1) := by
  refine dec_of ?_
  unfold Jvm.ClassFile.Decoder.instr
  show Except.bind ((Jvm.ClassFile.Reader.u1 : Jvm.ClassFile.Decoder Nat) code pc) _ = _
  rw [u1_by h0]
  rfl
theorem en_iand (h0 : by_ code pc 126) : decode code pc = .ok (.iand, 1) := by
  refine dec_of ?_
  unfold Jvm.ClassFile.Decoder.instr
  show Except.bind ((Jvm.ClassFile.Reader.u1 : Jvm.ClassFile.Decoder Nat) code pc) _ = _
  rw [u1_by h0]
  rfl
theorem en_iastore (h0 : by_ code pc 79) : decode code pc = .ok (.iastore, 1) := by
  refine dec_of ?_
  unfold Jvm.ClassFile.Decoder.instr
  show Except.bind ((Jvm.ClassFile.Reader.u1 : Jvm.ClassFile.Decoder Nat) code pc) _ = _
  rw [u1_by h0]
  rfl
theorem en_idiv (h0 : by_ code pc 108) : decode code pc = .ok (.idiv, 1) := by
  refine dec_of ?_
  unfold Jvm.ClassFile.Decoder.instr
  show Except.bind ((Jvm.ClassFile.Reader.u1 : Jvm.ClassFile.Decoder Nat) code pc) _ = _
  rw [u1_by h0]
  rfl
theorem en_imul (h0 : by_ code pc 104) : decode code pc = .ok (.imul, 1) := by
  refine dec_of ?_
  unfold Jvm.ClassFile.Decoder.instr
  show Except.bind ((Jvm.ClassFile.Reader.u1 : Jvm.ClassFile.Decoder Nat) code pc) _ = _
  rw [u1_by h0]
  rfl
theorem en_ineg (h0 : by_ code pc 116) : decode code pc = .ok (.ineg, 1) := by
  refine dec_of ?_
  unfold Jvm.ClassFile.Decoder.instr
  show Except.bind ((Jvm.ClassFile.Reader.u1 : Jvm.ClassFile.Decoder Nat) code pc) _ = _
  rw [u1_by h0]
  rfl
theorem en_ior (h0 : by_ code pc 128) : decode code pc = .ok (.ior, 1) := by
  refine dec_of ?_
  unfold Jvm.ClassFile.Decoder.instr
  show Except.bind ((Jvm.ClassFile.Reader.u1 : Jvm.ClassFile.Decoder Nat) code pc) _ = _
  rw [u1_by h0]
  rfl
theorem en_irem (h0 : by_ code pc 112) : decode code pc = .ok (.irem, 1) := by
  refine dec_of ?_
  unfold Jvm.ClassFile.Decoder.instr
  show Except.bind ((Jvm.ClassFile.Reader.u1 : Jvm.ClassFile.Decoder Nat) code pc) _ = _
  rw [u1_by h0]
  rfl
theorem en_ireturn (h0 : by_ code pc 172) : decode code pc = .ok (.ireturn, 1) := by
  refine dec_of ?_
  unfold Jvm.ClassFile.Decoder.instr
  show Except.bind ((Jvm.ClassFile.Reader.u1 : Jvm.ClassFile.Decoder Nat) code pc) _ = _
  rw [u1_by h0]
  rfl
theorem en_ishl (h0 : by_ code pc 120) : decode code pc = .ok (.ishl, 1) := by
  refine dec_of ?_
  unfold Jvm.ClassFile.Decoder.instr
  show Except.bind ((Jvm.ClassFile.Reader.u1 : Jvm.ClassFile.Decoder Nat) code pc) _ = _
  rw [u1_by h0]
  rfl
theorem en_ishr (h0 : by_ code pc 122) : decode code pc = .ok (.ishr, 1) := by
  refine dec_of ?_
  unfold Jvm.ClassFile.Decoder.instr
  show Except.bind ((Jvm.ClassFile.Reader.u1 : Jvm.ClassFile.Decoder Nat) code pc) _ = _
  rw [u1_by h0]
  rfl
theorem en_isub (h0 : by_ code pc 100) : decode code pc = .ok (.isub, 1) := by
  refine dec_of ?_
  unfold Jvm.ClassFile.Decoder.instr
  show Except.bind ((Jvm.ClassFile.Reader.u1 : Jvm.ClassFile.Decoder Nat) code pc) _ = _
  rw [u1_by h0]
  rfl
theorem en_iushr (h0 : by_ code pc 124) : decode code pc = .ok (.iushr, 1) := by
  refine dec_of ?_
  unfold Jvm.ClassFile.Decoder.instr
  show Except.bind ((Jvm.ClassFile.Reader.u1 : Jvm.ClassFile.Decoder Nat) code pc) _ = _
  rw [u1_by h0]
  rfl
theorem en_ixor (h0 : by_ code pc 130) : decode code pc = .ok (.ixor, 1) := by
  refine dec_of ?_
  unfold Jvm.ClassFile.Decoder.instr
  show Except.bind ((Jvm.ClassFile.Reader.u1 : Jvm.ClassFile.Decoder Nat) code pc) _ = _
  rw [u1_by h0]
  rfl
theorem en_l2i (h0 : by_ code pc 136) : decode code pc = .ok (.l2i, 1) := by
  refine dec_of ?_
  unfold Jvm.ClassFile.Decoder.instr
  show Except.bind ((Jvm.ClassFile.Reader.u1 : Jvm.ClassFile.Decoder Nat) code pc) _ = _
  rw [u1_by h0]
  rfl
theorem en_ladd (h0 : by_ code pc 97) : decode code pc = .ok (.ladd, 1) := by
  refine dec_of ?_
  unfold Jvm.ClassFile.Decoder.instr
  show Except.bind ((Jvm.ClassFile.Reader.u1 : Jvm.ClassFile.Decoder Nat) code pc) _ = _
  rw [u1_by h0]
  rfl
theorem en_laload (h0 : by_ code pc 47) : decode code pc = .ok (.laload, 1) := by
  refine dec_of ?_
  unfold Jvm.ClassFile.Decoder.instr
  show Except.bind ((Jvm.ClassFile.Reader.u1 : Jvm.ClassFile.Decoder Nat) code pc) _ = _
  rw [u1_by h0]
  rfl
theorem en_land (h0 : by_ code pc 127) : decode code pc = .ok (.land, 1) := by
  refine dec_of ?_
  unfold Jvm.ClassFile.Decoder.instr
  show Except.bind ((Jvm.ClassFile.Reader.u1 : Jvm.ClassFile.Decoder Nat) code pc) _ = _
  rw [u1_by h0]
  rfl
theorem en_lastore (h0 : by_ code pc 80) : decode code pc = .ok (.lastore, 1) := by
  refine dec_of ?_
  unfold Jvm.ClassFile.Decoder.instr
  show Except.bind ((Jvm.ClassFile.Reader.u1 : Jvm.ClassFile.Decoder Nat) code pc) _ = _
  rw [u1_by h0]
  rfl
theorem en_lcmp (h0 : by_ code pc 148) : decode code pc = .ok (.lcmp, 1) := by
  refine dec_of ?_
  unfold Jvm.ClassFile.Decoder.instr
  show Except.bind ((Jvm.ClassFile.Reader.u1 : Jvm.ClassFile.Decoder Nat) code pc) _ = _
  rw [u1_by h0]
  rfl
theorem en_ldiv (h0 : by_ code pc 109) : decode code pc = .ok (.ldiv, 1) := by
  refine dec_of ?_
  unfold Jvm.ClassFile.Decoder.instr
  show Except.bind ((Jvm.ClassFile.Reader.u1 : Jvm.ClassFile.Decoder Nat) code pc) _ = _
  rw [u1_by h0]
  rfl
theorem en_lmul (h0 : by_ code pc 105) : decode code pc = .ok (.lmul, 1) := by
  refine dec_of ?_
  unfold Jvm.ClassFile.Decoder.instr
  show Except.bind ((Jvm.ClassFile.Reader.u1 : Jvm.ClassFile.Decoder Nat) code pc) _ = _
  rw [u1_by h0]
  rfl
theorem en_lor (h0 : by_ code pc 129) : decode code pc = .ok (.lor, 1) := by
  refine dec_of ?_
  unfold Jvm.ClassFile.Decoder.instr
  show Except.bind ((Jvm.ClassFile.Reader.u1 : Jvm.ClassFile.Decoder Nat) code pc) _ = _
  rw [u1_by h0]
  rfl
theorem en_lrem (h0 : by_ code pc 113) : decode code pc = .ok (.lrem, 1) := by
  refine dec_of ?_
  unfold Jvm.ClassFile.Decoder.instr
  show Except.bind ((Jvm.ClassFile.Reader.u1 : Jvm.ClassFile.Decoder Nat) code pc) _ = _
  rw [u1_by h0]
  rfl
theorem en_lreturn (h0 : by_ code pc 173) : decode code pc = .ok (.lreturn, 1) := by
  refine dec_of ?_
  unfold Jvm.ClassFile.Decoder.instr
  show Except.bind ((Jvm.ClassFile.Reader.u1 : Jvm.ClassFile.Decoder Nat) code pc) _ = _
  rw [u1_by h0]
  rfl
theorem en_lshl (h0 : by_ code pc 121) : decode code pc = .ok (.lshl, 1) := by
  refine dec_of ?_
  unfold Jvm.ClassFile.Decoder.instr
  show Except.bind ((Jvm.ClassFile.Reader.u1 : Jvm.ClassFile.Decoder Nat) code pc) _ = _
  rw [u1_by h0]
  rfl
theorem en_lsub (h0 : by_ code pc 101) : decode code pc = .ok (.lsub, 1) := by
  refine dec_of ?_
  unfold Jvm.ClassFile.Decoder.instr
  show Except.bind ((Jvm.ClassFile.Reader.u1 : Jvm.ClassFile.Decoder Nat) code pc) _ = _
  rw [u1_by h0]
  rfl
theorem en_pop (h0 : by_ code pc 87) : decode code pc = .ok (.pop, 1) := by
  refine dec_of ?_
  unfold Jvm.ClassFile.Decoder.instr
  show Except.bind ((Jvm.ClassFile.Reader.u1 : Jvm.ClassFile.Decoder Nat) code pc) _ = _
  rw [u1_by h0]
  rfl
theorem en_pop2 (h0 : by_ code pc 88) : decode code pc = .ok (.pop2, 1) := by
  refine dec_of ?_
  unfold Jvm.ClassFile.Decoder.instr
  show Except.bind ((Jvm.ClassFile.Reader.u1 : Jvm.ClassFile.Decoder Nat) code pc) _ = _
  rw [u1_by h0]
  rfl
theorem en_return_ (h0 : by_ code pc 177) : decode code pc = .ok (.return_, 1) := by
  refine dec_of ?_
  unfold Jvm.ClassFile.Decoder.instr
  show Except.bind ((Jvm.ClassFile.Reader.u1 : Jvm.ClassFile.Decoder Nat) code pc) _ = _
  rw [u1_by h0]
  rfl
theorem en_iload_n0 (h0 : by_ code pc 26) : decode code pc = .ok (.iload_n 0, 1) := by
  refine dec_of ?_
  unfold Jvm.ClassFile.Decoder.instr
  show Except.bind ((Jvm.ClassFile.Reader.u1 : Jvm.ClassFile.Decoder Nat) code pc) _ = _
  rw [u1_by h0]
  rfl
theorem en_iload_n1 (h0 : by_ code pc 27) : decode code pc = .ok (.iload_n 1, 1) := by
  refine dec_of ?_
  unfold Jvm.ClassFile.Decoder.instr
  show Except.bind ((Jvm.ClassFile.Reader.u1 : Jvm.ClassFile.Decoder Nat) code pc) _ = _
  rw [u1_by h0]
  rfl
theorem en_iload_n2 (h0 : by_ code pc 28) : decode code pc = .ok (.iload_n 2, 1) := by
  refine dec_of ?_
  unfold Jvm.ClassFile.Decoder.instr
  show Except.bind ((Jvm.ClassFile.Reader.u1 : Jvm.ClassFile.Decoder Nat) code pc) _ = _
  rw [u1_by h0]
  rfl
theorem en_iload_n3 (h0 : by_ code pc 29) : decode code pc = .ok (.iload_n 3, 1) := by
  refine dec_of ?_
  unfold Jvm.ClassFile.Decoder.instr
  show Except.bind ((Jvm.ClassFile.Reader.u1 : Jvm.ClassFile.Decoder Nat) code pc) _ = _
  rw [u1_by h0]
  rfl
theorem en_lload_n0 (h0 : by_ code pc 30) : decode code pc = .ok (.lload_n 0, 1) := by
  refine dec_of ?_
  unfold Jvm.ClassFile.Decoder.instr
  show Except.bind ((Jvm.ClassFile.Reader.u1 : Jvm.ClassFile.Decoder Nat) code pc) _ = _
  rw [u1_by h0]
  rfl
theorem en_lload_n1 (h0 : by_ code pc 31) : decode code pc = .ok (.lload_n 1, 1) := by
  refine dec_of ?_
  unfold Jvm.ClassFile.Decoder.instr
  show Except.bind ((Jvm.ClassFile.Reader.u1 : Jvm.ClassFile.Decoder Nat) code pc) _ = _
  rw [u1_by h0]
  rfl
theorem en_lload_n2 (h0 : by_ code pc 32) : decode code pc = .ok (.lload_n 2, 1) := by
  refine dec_of ?_
  unfold Jvm.ClassFile.Decoder.instr
  show Except.bind ((Jvm.ClassFile.Reader.u1 : Jvm.ClassFile.Decoder Nat) code pc) _ = _
  rw [u1_by h0]
  rfl
theorem en_lload_n3 (h0 : by_ code pc 33) : decode code pc = .ok (.lload_n 3, 1) := by
  refine dec_of ?_
  unfold Jvm.ClassFile.Decoder.instr
  show Except.bind ((Jvm.ClassFile.Reader.u1 : Jvm.ClassFile.Decoder Nat) code pc) _ = _
  rw [u1_by h0]
  rfl
theorem en_aload_n0 (h0 : by_ code pc 42) : decode code pc = .ok (.aload_n 0, 1) := by
  refine dec_of ?_
  unfold Jvm.ClassFile.Decoder.instr
  show Except.bind ((Jvm.ClassFile.Reader.u1 : Jvm.ClassFile.Decoder Nat) code pc) _ = _
  rw [u1_by h0]
  rfl
theorem en_aload_n1 (h0 : by_ code pc 43) : decode code pc = .ok (.aload_n 1, 1) := by
  refine dec_of ?_
  unfold Jvm.ClassFile.Decoder.instr
  show Except.bind ((Jvm.ClassFile.Reader.u1 : Jvm.ClassFile.Decoder Nat) code pc) _ = _
  rw [u1_by h0]
  rfl
theorem en_aload_n2 (h0 : by_ code pc 44) : decode code pc = .ok (.aload_n 2, 1) := by
  refine dec_of ?_
  unfold Jvm.ClassFile.Decoder.instr
  show Except.bind ((Jvm.ClassFile.Reader.u1 : Jvm.ClassFile.Decoder Nat) code pc) _ = _
  rw [u1_by h0]
  rfl
theorem en_aload_n3 (h0 : by_ code pc 45) : decode code pc = .ok (.aload_n 3, 1) := by
  refine dec_of ?_
  unfold Jvm.ClassFile.Decoder.instr
  show Except.bind ((Jvm.ClassFile.Reader.u1 : Jvm.ClassFile.Decoder Nat) code pc) _ = _
  rw [u1_by h0]
  rfl
theorem en_istore_n0 (h0 : by_ code pc 59) : decode code pc = .ok (.istore_n 0, 1) := by
  refine dec_of ?_
  unfold Jvm.ClassFile.Decoder.instr
  show Except.bind ((Jvm.ClassFile.Reader.u1 : Jvm.ClassFile.Decoder Nat) code pc) _ = _
  rw [u1_by h0]
  rfl
theorem en_istore_n1 (h0 : by_ code pc 60) : decode code pc = .ok (.istore_n 1, 1) := by
  refine dec_of ?_
  unfold Jvm.ClassFile.Decoder.instr
  show Except.bind ((Jvm.ClassFile.Reader.u1 : Jvm.ClassFile.Decoder Nat) code pc) _ = _
  rw [u1_by h0]
  rfl
theorem en_istore_n2 (h0 : by_ code pc 61) : decode code pc = .ok (.istore_n 2, 1) := by
  refine dec_of ?_
  unfold Jvm.ClassFile.Decoder.instr
  show Except.bind ((Jvm.ClassFile.Reader.u1 : Jvm.ClassFile.Decoder Nat) code pc) _ = _
  rw [u1_by h0]
  rfl
theorem en_istore_n3 (h0 : by_ code pc 62) : decode code pc = .ok (.istore_n 3, 1) := by
  refine dec_of ?_
  unfold Jvm.ClassFile.Decoder.instr
  show Except.bind ((Jvm.ClassFile.Reader.u1 : Jvm.ClassFile.Decoder Nat) code pc) _ = _
  rw [u1_by h0]
  rfl
theorem en_lstore_n0 (h0 : by_ code pc 63) : decode code pc = .ok (.lstore_n 0, 1) := by
  refine dec_of ?_
  unfold Jvm.ClassFile.Decoder.instr
  show Except.bind ((Jvm.ClassFile.Reader.u1 : Jvm.ClassFile.Decoder Nat) code pc) _ = _
  rw [u1_by h0]
  rfl
theorem en_lstore_n1 (h0 : by_ code pc 64) : decode code pc = .ok (.lstore_n 1, 1) := by
  refine dec_of ?_
  unfold Jvm.ClassFile.Decoder.instr
  show Except.bind ((Jvm.ClassFile.Reader.u1 : Jvm.ClassFile.Decoder Nat) code pc) _ = _
  rw [u1_by h0]
  rfl
theorem en_lstore_n2 (h0 : by_ code pc 65) : decode code pc = .ok (.lstore_n 2, 1) := by
  refine dec_of ?_
  unfold Jvm.ClassFile.Decoder.instr
  show Except.bind ((Jvm.ClassFile.Reader.u1 : Jvm.ClassFile.Decoder Nat) code pc) _ = _
  rw [u1_by h0]
  rfl
theorem en_lstore_n3 (h0 : by_ code pc 66) : decode code pc = .ok (.lstore_n 3, 1) := by
  refine dec_of ?_
  unfold Jvm.ClassFile.Decoder.instr
  show Except.bind ((Jvm.ClassFile.Reader.u1 : Jvm.ClassFile.Decoder Nat) code pc) _ = _
  rw [u1_by h0]
  rfl
theorem en_astore_n0 (h0 : by_ code pc 75) : decode code pc = .ok (.astore_n 0, 1) := by
  refine dec_of ?_
  unfold Jvm.ClassFile.Decoder.instr
  show Except.bind ((Jvm.ClassFile.Reader.u1 : Jvm.ClassFile.Decoder Nat) code pc) _ = _
  rw [u1_by h0]
  rfl
theorem en_astore_n1 (h0 : by_ code pc 76) : decode code pc = .ok (.astore_n 1, 1) := by
  refine dec_of ?_
  unfold Jvm.ClassFile.Decoder.instr
  show Except.bind ((Jvm.ClassFile.Reader.u1 : Jvm.ClassFile.Decoder Nat) code pc) _ = _
  rw [u1_by h0]
  rfl
theorem en_astore_n2 (h0 : by_ code pc 77) : decode code pc = .ok (.astore_n 2, 1) := by
  refine dec_of ?_
  unfold Jvm.ClassFile.Decoder.instr
  show Except.bind ((Jvm.ClassFile.Reader.u1 : Jvm.ClassFile.Decoder Nat) code pc) _ = _
  rw [u1_by h0]
  rfl
theorem en_astore_n3 (h0 : by_ code pc 78) : decode code pc = .ok (.astore_n 3, 1) := by
  refine dec_of ?_
  unfold Jvm.ClassFile.Decoder.instr
  show Except.bind ((Jvm.ClassFile.Reader.u1 : Jvm.ClassFile.Decoder Nat) code pc) _ = _
  rw [u1_by h0]
  rfl
theorem en_iconstm1 (h0 : by_ code pc 2) : decode code pc = .ok (.iconst (-1), 1) := by
  refine dec_of ?_
  unfold Jvm.ClassFile.Decoder.instr
  show Except.bind ((Jvm.ClassFile.Reader.u1 : Jvm.ClassFile.Decoder Nat) code pc) _ = _
  rw [u1_by h0]
  rfl
theorem en_iconst0 (h0 : by_ code pc 3) : decode code pc = .ok (.iconst (0), 1) := by
  refine dec_of ?_
  unfold Jvm.ClassFile.Decoder.instr
  show Except.bind ((Jvm.ClassFile.Reader.u1 : Jvm.ClassFile.Decoder Nat) code pc) _ = _
  rw [u1_by h0]
  rfl
theorem en_iconst1 (h0 : by_ code pc 4) : decode code pc = .ok (.iconst (1), 1) := by
  refine dec_of ?_
  unfold Jvm.ClassFile.Decoder.instr
  show Except.bind ((Jvm.ClassFile.Reader.u1 : Jvm.ClassFile.Decoder Nat) code pc) _ = _
  rw [u1_by h0]
  rfl
theorem en_iconst2 (h0 : by_ code pc 5) : decode code pc = .ok (.iconst (2), 1) := by
  refine dec_of ?_
  unfold Jvm.ClassFile.Decoder.instr
  show Except.bind ((Jvm.ClassFile.Reader.u1 : Jvm.ClassFile.Decoder Nat) code pc) _ = _
  rw [u1_by h0]
  rfl
theorem en_iconst3 (h0 : by_ code pc 6) : decode code pc = .ok (.iconst (3), 1) := by
  refine dec_of ?_
  unfold Jvm.ClassFile.Decoder.instr
  show Except.bind ((Jvm.ClassFile.Reader.u1 : Jvm.ClassFile.Decoder Nat) code pc) _ = _
  rw [u1_by h0]
  rfl
theorem en_iconst4 (h0 : by_ code pc 7) : decode code pc = .ok (.iconst (4), 1) := by
  refine dec_of ?_
  unfold Jvm.ClassFile.Decoder.instr
  show Except.bind ((Jvm.ClassFile.Reader.u1 : Jvm.ClassFile.Decoder Nat) code pc) _ = _
  rw [u1_by h0]
  rfl
theorem en_iconst5 (h0 : by_ code pc 8) : decode code pc = .ok (.iconst (5), 1) := by
  refine dec_of ?_
  unfold Jvm.ClassFile.Decoder.instr
  show Except.bind ((Jvm.ClassFile.Reader.u1 : Jvm.ClassFile.Decoder Nat) code pc) _ = _
  rw [u1_by h0]
  rfl
theorem en_lconst0 (h0 : by_ code pc 9) : decode code pc = .ok (.lconst 0, 1) := by
  refine dec_of ?_
  unfold Jvm.ClassFile.Decoder.instr
  show Except.bind ((Jvm.ClassFile.Reader.u1 : Jvm.ClassFile.Decoder Nat) code pc) _ = _
  rw [u1_by h0]
  rfl
theorem en_lconst1 (h0 : by_ code pc 10) : decode code pc = .ok (.lconst 1, 1) := by
  refine dec_of ?_
  unfold Jvm.ClassFile.Decoder.instr
  show Except.bind ((Jvm.ClassFile.Reader.u1 : Jvm.ClassFile.Decoder Nat) code pc) _ = _
  rw [u1_by h0]
  rfl
theorem en_iload {n : Nat} (h0 : by_ code pc 21) (h1 : by_ code (pc + 1) n) : decode code pc = .ok (.iload n, 2) := by
  refine dec_of ?_
  unfold Jvm.ClassFile.Decoder.instr
  show Except.bind ((Jvm.ClassFile.Reader.u1 : Jvm.ClassFile.Decoder Nat) code pc) _ = _
  rw [u1_by h0]
  show Except.bind ((Jvm.ClassFile.Reader.u1 : Jvm.ClassFile.Decoder Nat) code (pc + 1)) _ = _
  rw [u1_by h1]
  rfl
theorem en_lload {n : Nat} (h0 : by_ code pc 22) (h1 : by_ code (pc + 1) n) : decode code pc = .ok (.lload n, 2) := by
  refine dec_of ?_
  unfold Jvm.ClassFile.Decoder.instr
  show Except.bind ((Jvm.ClassFile.Reader.u1 : Jvm.ClassFile.Decoder Nat) code pc) _ = _
  rw [u1_by h0]
  show Except.bind ((Jvm.ClassFile.Reader.u1 : Jvm.ClassFile.Decoder Nat) code (pc + 1)) _ = _
  rw [u1_by h1]
  rfl
theorem en_aload {n : Nat} (h0 : by_ code pc 25) (h1 : by_ code (pc + 1) n) : decode code pc = .ok (.aload n, 2) := by
  refine dec_of ?_
  unfold Jvm.ClassFile.Decoder.instr
  show Except.bind ((Jvm.ClassFile.Reader.u1 : Jvm.ClassFile.Decoder Nat) code pc) _ = _
  rw [u1_by h0]
  show Except.bind ((Jvm.ClassFile.Reader.u1 : Jvm.ClassFile.Decoder Nat) code (pc + 1)) _ = _
  rw [u1_by h1]
  rfl
theorem en_istore {n : Nat} (h0 : by_ code pc 54) (h1 : by_ code (pc + 1) n) : decode code pc = .ok (.istore n, 2) := by
  refine dec_of ?_
  unfold Jvm.ClassFile.Decoder.instr
  show Except.bind ((Jvm.ClassFile.Reader.u1 : Jvm.ClassFile.Decoder Nat) code pc) _ = _
  rw [u1_by h0]
  show Except.bind ((Jvm.ClassFile.Reader.u1 : Jvm.ClassFile.Decoder Nat) code (pc + 1)) _ = _
  rw [u1_by h1]
  rfl
theorem en_lstore {n : Nat} (h0 : by_ code pc 55) (h1 : by_ code (pc + 1) n) : decode code pc = .ok (.lstore n, 2) := by
  refine dec_of ?_
  unfold Jvm.ClassFile.Decoder.instr
  show Except.bind ((Jvm.ClassFile.Reader.u1 : Jvm.ClassFile.Decoder Nat) code pc) _ = _
  rw [u1_by h0]
  show Except.bind ((Jvm.ClassFile.Reader.u1 : Jvm.ClassFile.Decoder Nat) code (pc + 1)) _ = _
  rw [u1_by h1]
  rfl
theorem en_astore {n : Nat} (h0 : by_ code pc 58) (h1 : by_ code (pc + 1) n) : decode code pc = .ok (.astore n, 2) := by
  refine dec_of ?_
  unfold Jvm.ClassFile.Decoder.instr
  show Except.bind ((Jvm.ClassFile.Reader.u1 : Jvm.ClassFile.Decoder Nat) code pc) _ = _
  rw [u1_by h0]
  show Except.bind ((Jvm.ClassFile.Reader.u1 : Jvm.ClassFile.Decoder Nat) code (pc + 1)) _ = _
  rw [u1_by h1]
  rfl
theorem en_ldc {n : Nat} (h0 : by_ code pc 18) (h1 : by_ code (pc + 1) n) : decode code pc = .ok (.ldc n, 2) := by
  refine dec_of ?_
  unfold Jvm.ClassFile.Decoder.instr
  show Except.bind ((Jvm.ClassFile.Reader.u1 : Jvm.ClassFile.Decoder Nat) code pc) _ = _
  rw [u1_by h0]
  show Except.bind ((Jvm.ClassFile.Reader.u1 : Jvm.ClassFile.Decoder Nat) code (pc + 1)) _ = _
  rw [u1_by h1]
  rfl
theorem en_ldc_w {a b : Nat} (h0 : by_ code pc 19) (h1 : by_ code (pc + 1) a) (h2 : by_ code (pc + 1 + 1) b) : decode code pc = .ok (.ldc_w (a * 256 + b), 3) := by
  refine dec_of ?_
  unfold Jvm.ClassFile.Decoder.instr
  show Except.bind ((Jvm.ClassFile.Reader.u1 : Jvm.ClassFile.Decoder Nat) code pc) _ = _
  rw [u1_by h0]
  show Except.bind ((Jvm.ClassFile.Reader.u2 : Jvm.ClassFile.Decoder Nat) code (pc + 1)) _ = _
  rw [u2_by h1 h2]
  rfl
theorem en_ldc2_w {a b : Nat} (h0 : by_ code pc 20) (h1 : by_ code (pc + 1) a) (h2 : by_ code (pc + 1 + 1) b) : decode code pc = .ok (.ldc2_w (a * 256 + b), 3) := by
  refine dec_of ?_
  unfold Jvm.ClassFile.Decoder.instr
  show Except.bind ((Jvm.ClassFile.Reader.u1 : Jvm.ClassFile.Decoder Nat) code pc) _ = _
  rw [u1_by h0]
  show Except.bind ((Jvm.ClassFile.Reader.u2 : Jvm.ClassFile.Decoder Nat) code (pc + 1)) _ = _
  rw [u2_by h1 h2]
  rfl
theorem en_getfield {a b : Nat} (h0 : by_ code pc 180) (h1 : by_ code (pc + 1) a) (h2 : by_ code (pc + 1 + 1) b) : decode code pc = .ok (.getfield (a * 256 + b), 3) := by
  refine dec_of ?_
  unfold Jvm.ClassFile.Decoder.instr
  show Except.bind ((Jvm.ClassFile.Reader.u1 : Jvm.ClassFile.Decoder Nat) code pc) _ = _
  rw [u1_by h0]
  show Except.bind ((Jvm.ClassFile.Reader.u2 : Jvm.ClassFile.Decoder Nat) code (pc + 1)) _ = _
  rw [u2_by h1 h2]
  rfl
theorem en_putfield {a b : Nat} (h0 : by_ code pc 181) (h1 : by_ code (pc + 1) a) (h2 : by_ code (pc + 1 + 1) b) : decode code pc = .ok (.putfield (a * 256 + b), 3) := by
  refine dec_of ?_
  unfold Jvm.ClassFile.Decoder.instr
  show Except.bind ((Jvm.ClassFile.Reader.u1 : Jvm.ClassFile.Decoder Nat) code pc) _ = _
  rw [u1_by h0]
  show Except.bind ((Jvm.ClassFile.Reader.u2 : Jvm.ClassFile.Decoder Nat) code (pc + 1)) _ = _
  rw [u2_by h1 h2]
  rfl
theorem en_getstatic {a b : Nat} (h0 : by_ code pc 178) (h1 : by_ code (pc + 1) a) (h2 : by_ code (pc + 1 + 1) b) : decode code pc = .ok (.getstatic (a * 256 + b), 3) := by
  refine dec_of ?_
  unfold Jvm.ClassFile.Decoder.instr
  show Except.bind ((Jvm.ClassFile.Reader.u1 : Jvm.ClassFile.Decoder Nat) code pc) _ = _
  rw [u1_by h0]
  show Except.bind ((Jvm.ClassFile.Reader.u2 : Jvm.ClassFile.Decoder Nat) code (pc + 1)) _ = _
  rw [u2_by h1 h2]
  rfl
theorem en_invokevirtual {a b : Nat} (h0 : by_ code pc 182) (h1 : by_ code (pc + 1) a) (h2 : by_ code (pc + 1 + 1) b) : decode code pc = .ok (.invokevirtual (a * 256 + b), 3) := by
  refine dec_of ?_
  unfold Jvm.ClassFile.Decoder.instr
  show Except.bind ((Jvm.ClassFile.Reader.u1 : Jvm.ClassFile.Decoder Nat) code pc) _ = _
  rw [u1_by h0]
  show Except.bind ((Jvm.ClassFile.Reader.u2 : Jvm.ClassFile.Decoder Nat) code (pc + 1)) _ = _
  rw [u2_by h1 h2]
  rfl
theorem en_invokespecial {a b : Nat} (h0 : by_ code pc 183) (h1 : by_ code (pc + 1) a) (h2 : by_ code (pc + 1 + 1) b) : decode code pc = .ok (.invokespecial (a * 256 + b), 3) := by
  refine dec_of ?_
  unfold Jvm.ClassFile.Decoder.instr
  show Except.bind ((Jvm.ClassFile.Reader.u1 : Jvm.ClassFile.Decoder Nat) code pc) _ = _
  rw [u1_by h0]
  show Except.bind ((Jvm.ClassFile.Reader.u2 : Jvm.ClassFile.Decoder Nat) code (pc + 1)) _ = _
  rw [u2_by h1 h2]
  rfl
theorem en_invokestatic {a b : Nat} (h0 : by_ code pc 184) (h1 : by_ code (pc + 1) a) (h2 : by_ code (pc + 1 + 1) b) : decode code pc = .ok (.invokestatic (a * 256 + b), 3) := by
  refine dec_of ?_
  unfold Jvm.ClassFile.Decoder.instr
  show Except.bind ((Jvm.ClassFile.Reader.u1 : Jvm.ClassFile.Decoder Nat) code pc) _ = _
  rw [u1_by h0]
  show Except.bind ((Jvm.ClassFile.Reader.u2 : Jvm.ClassFile.Decoder Nat) code (pc + 1)) _ = _
  rw [u2_by h1 h2]
  rfl
theorem en_new {a b : Nat} (h0 : by_ code pc 187) (h1 : by_ code (pc + 1) a) (h2 : by_ code (pc + 1 + 1) b) : decode code pc = .ok (.new (a * 256 + b), 3) := by
  refine dec_of ?_
  unfold Jvm.ClassFile.Decoder.instr
  show Except.bind ((Jvm.ClassFile.Reader.u1 : Jvm.ClassFile.Decoder Nat) code pc) _ = _
  rw [u1_by h0]
  show Except.bind ((Jvm.ClassFile.Reader.u2 : Jvm.ClassFile.Decoder Nat) code (pc + 1)) _ = _
  rw [u2_by h1 h2]
  rfl
theorem en_anewarray {a b : Nat} (h0 : by_ code pc 189) (h1 : by_ code (pc + 1) a) (h2 : by_ code (pc + 1 + 1) b) : decode code pc = .ok (.anewarray (a * 256 + b), 3) := by
  refine dec_of ?_
  unfold Jvm.ClassFile.Decoder.instr
  show Except.bind ((Jvm.ClassFile.Reader.u1 : Jvm.ClassFile.Decoder Nat) code pc) _ = _
  rw [u1_by h0]
  show Except.bind ((Jvm.ClassFile.Reader.u2 : Jvm.ClassFile.Decoder Nat) code (pc + 1)) _ = _
  rw [u2_by h1 h2]
  rfl
theorem en_ifCond_eq {a b : Nat} (h0 : by_ code pc 153) (h1 : by_ code (pc + 1) a) (h2 : by_ code (pc + 1 + 1) b) : decode code pc = .ok (.ifCond .eq (Jvm.ClassFile.Reader.signed 16 (a * 256 + b)), 3) := by
  refine dec_of ?_
  unfold Jvm.ClassFile.Decoder.instr
  show Except.bind ((Jvm.ClassFile.Reader.u1 : Jvm.ClassFile.Decoder Nat) code pc) _ = _
  rw [u1_by h0]
  show Except.bind ((Jvm.ClassFile.Reader.s2 : Jvm.ClassFile.Decoder Int) code (pc + 1)) _ = _
  rw [s2_by h1 h2]
  rfl
theorem en_if_icmp_eq {a b : Nat} (h0 : by_ code pc 159) (h1 : by_ code (pc + 1) a) (h2 : by_ code (pc + 1 + 1) b) : decode code pc = .ok (.if_icmp .eq (Jvm.ClassFile.Reader.signed 16 (a * 256 + b)), 3) := by
  refine dec_of ?_
  unfold Jvm.ClassFile.Decoder.instr
  show Except.bind ((Jvm.ClassFile.Reader.u1 : Jvm.ClassFile.Decoder Nat) code pc) _ = _
  rw [u1_by h0]
  show Except.bind ((Jvm.ClassFile.Reader.s2 : Jvm.ClassFile.Decoder Int) code (pc + 1)) _ = _
  rw [s2_by h1 h2]
  rfl
theorem en_ifCond_ne {a b : Nat} (h0 : by_ code pc 154) (h1 : by_ code (pc + 1) a) (h2 : by_ code (pc + 1 + 1) b) : decode code pc = .ok (.ifCond .ne (Jvm.ClassFile.Reader.signed 16 (a * 256 + b)), 3) := by
  refine dec_of ?_
  unfold Jvm.ClassFile.Decoder.instr
  show Except.bind ((Jvm.ClassFile.Reader.u1 : Jvm.ClassFile.Decoder Nat) code pc) _ = _
  rw [u1_by h0]
  show Except.bind ((Jvm.ClassFile.Reader.s2 : Jvm.ClassFile.Decoder Int) code (pc + 1)) _ = _
  rw [s2_by h1 h2]
  rfl
theorem en_if_icmp_ne {a b : Nat} (h0 : by_ code pc 160) (h1 : by_ code (pc + 1) a) (h2 : by_ code (pc + 1 + 1) b) : decode code pc = .ok (.if_icmp .ne (Jvm.ClassFile.Reader.signed 16 (a * 256 + b)), 3) := by
  refine dec_of ?_
  unfold Jvm.ClassFile.Decoder.instr
  show Except.bind ((Jvm.ClassFile.Reader.u1 : Jvm.ClassFile.Decoder Nat) code pc) _ = _
  rw [u1_by h0]
  show Except.bind ((Jvm.ClassFile.Reader.s2 : Jvm.ClassFile.Decoder Int) code (pc + 1)) _ = _
  rw [s2_by h1 h2]
  rfl
theorem en_ifCond_lt {a b : Nat} (h0 : by_ code pc 155) (h1 : by_ code (pc + 1) a) (h2 : by_ code (pc + 1 + 1) b) : decode code pc = .ok (.ifCond .lt (Jvm.ClassFile.Reader.signed 16 (a * 256 + b)), 3) := by
  refine dec_of ?_
  unfold Jvm.ClassFile.Decoder.instr
  show Except.bind ((Jvm.ClassFile.Reader.u1 : Jvm.ClassFile.Decoder Nat) code pc) _ = _
  rw [u1_by h0]
  show Except.bind ((Jvm.ClassFile.Reader.s2 : Jvm.ClassFile.Decoder Int) code (pc + 1)) _ = _
  rw [s2_by h1 h2]
  rfl
theorem en_if_icmp_lt {a b : Nat} (h0 : by_ code pc 161) (h1 : by_ code (pc + 1) a) (h2 : by_ code (pc + 1 + 1) b) : decode code pc = .ok (.if_icmp .lt (Jvm.ClassFile.Reader.signed 16 (a * 256 + b)), 3) := by
  refine dec_of ?_
  unfold Jvm.ClassFile.Decoder.instr
  show Except.bind ((Jvm.ClassFile.Reader.u1 : Jvm.ClassFile.Decoder Nat) code pc) _ = _
  rw [u1_by h0]
  show Except.bind ((Jvm.ClassFile.Reader.s2 : Jvm.ClassFile.Decoder Int) code (pc + 1)) _ = _
  rw [s2_by h1 h2]
  rfl
theorem en_ifCond_ge {a b : Nat} (h0 : by_ code pc 156) (h1 : by_ code (pc + 1) a) (h2 : by_ code (pc + 1 + 1) b) : decode code pc = .ok (.ifCond .ge (Jvm.ClassFile.Reader.signed 16 (a * 256 + b)), 3) := by
  refine dec_of ?_
  unfold Jvm.ClassFile.Decoder.instr
  show Except.bind ((Jvm.ClassFile.Reader.u1 : Jvm.ClassFile.Decoder Nat) code pc) _ = _
  rw [u1_by h0]
  show Except.bind ((Jvm.ClassFile.Reader.s2 : Jvm.ClassFile.Decoder Int) code (pc + 1)) _ = _
  rw [s2_by h1 h2]
  rfl
theorem en_if_icmp_ge {a b : Nat} (h0 : by_ code pc 162) (h1 : by_ code (pc + 1) a) (h2 : by_ code (pc + 1 + 1) b) : decode code pc = .ok (.if_icmp .ge (Jvm.ClassFile.Reader.signed 16 (a * 256 + b)), 3) := by
  refine dec_of ?_
  unfold Jvm.ClassFile.Decoder.instr
  show Except.bind ((Jvm.ClassFile.Reader.u1 : Jvm.ClassFile.Decoder Nat) code pc) _ = _
  rw [u1_by h0]
  show Except.bind ((Jvm.ClassFile.Reader.s2 : Jvm.ClassFile.Decoder Int) code (pc + 1)) _ = _
  rw [s2_by h1 h2]
  rfl
theorem en_ifCond_gt {a b : Nat} (h0 : by_ code pc 157) (h1 : by_ code (pc + 1) a) (h2 : by_ code (pc + 1 + 1) b) : decode code pc = .ok (.ifCond .gt (Jvm.ClassFile.Reader.signed 16 (a * 256 + b)), 3) := by
  refine dec_of ?_
  unfold Jvm.ClassFile.Decoder.instr
  show Except.bind ((Jvm.ClassFile.Reader.u1 : Jvm.ClassFile.Decoder Nat) code pc) _ = _
  rw [u1_by h0]
  show Except.bind ((Jvm.ClassFile.Reader.s2 : Jvm.ClassFile.Decoder Int) code (pc + 1)) _ = _
  rw [s2_by h1 h2]
  rfl
theorem en_if_icmp_gt {a b : Nat} (h0 : by_ code pc 163) (h1 : by_ code (pc + 1) a) (h2 : by_ code (pc + 1 + 1) b) : decode code pc = .ok (.if_icmp .gt (Jvm.ClassFile.Reader.signed 16 (a * 256 + b)), 3) := by
  refine dec_of ?_
  unfold Jvm.ClassFile.Decoder.instr
  show Except.bind ((Jvm.ClassFile.Reader.u1 : Jvm.ClassFile.Decoder Nat) code pc) _ = _
  rw [u1_by h0]
  show Except.bind ((Jvm.ClassFile.Reader.s2 : Jvm.ClassFile.Decoder Int) code (pc + 1)) _ = _
  rw [s2_by h1 h2]
  rfl
theorem en_ifCond_le {a b : Nat} (h0 : by_ code pc 158) (h1 : by_ code (pc + 1) a) (h2 : by_ code (pc + 1 + 1) b) : decode code pc = .ok (.ifCond .le (Jvm.ClassFile.Reader.signed 16 (a * 256 + b)), 3) := by
  refine dec_of ?_
  unfold Jvm.ClassFile.Decoder.instr
  show Except.bind ((Jvm.ClassFile.Reader.u1 : Jvm.ClassFile.Decoder Nat) code pc) _ = _
  rw [u1_by h0]
  show Except.bind ((Jvm.ClassFile.Reader.s2 : Jvm.ClassFile.Decoder Int) code (pc + 1)) _ = _
  rw [s2_by h1 h2]
  rfl
theorem en_if_icmp_le {a b : Nat} (h0 : by_ code pc 164) (h1 : by_ code (pc + 1) a) (h2 : by_ code (pc + 1 + 1) b) : decode code pc = .ok (.if_icmp .le (Jvm.ClassFile.Reader.signed 16 (a * 256 + b)), 3) := by
  refine dec_of ?_
  unfold Jvm.ClassFile.Decoder.instr
  show Except.bind ((Jvm.ClassFile.Reader.u1 : Jvm.ClassFile.Decoder Nat) code pc) _ = _
  rw [u1_by h0]
  show Except.bind ((Jvm.ClassFile.Reader.s2 : Jvm.ClassFile.Decoder Int) code (pc + 1)) _ = _
  rw [s2_by h1 h2]
  rfl
theorem en_goto {a b : Nat} (h0 : by_ code pc 167) (h1 : by_ code (pc + 1) a) (h2 : by_ code (pc + 1 + 1) b) : decode code pc = .ok (.goto (Jvm.ClassFile.Reader.signed 16 (a * 256 + b)), 3) := by
  refine dec_of ?_
  unfold Jvm.ClassFile.Decoder.instr
  show Except.bind ((Jvm.ClassFile.Reader.u1 : Jvm.ClassFile.Decoder Nat) code pc) _ = _
  rw [u1_by h0]
  show Except.bind ((Jvm.ClassFile.Reader.s2 : Jvm.ClassFile.Decoder Int) code (pc + 1)) _ = _
  rw [s2_by h1 h2]
  rfl
theorem en_ifnull {a b : Nat} (h0 : by_ code pc 198) (h1 : by_ code (pc + 1) a) (h2 : by_ code (pc + 1 + 1) b) : decode code pc = .ok (.ifnull (Jvm.ClassFile.Reader.signed 16 (a * 256 + b)), 3) := by
  refine dec_of ?_
  unfold Jvm.ClassFile.Decoder.instr
  show Except.bind ((Jvm.ClassFile.Reader.u1 : Jvm.ClassFile.Decoder Nat) code pc) _ = _
  rw [u1_by h0]
  show Except.bind ((Jvm.ClassFile.Reader.s2 : Jvm.ClassFile.Decoder Int) code (pc + 1)) _ = _
  rw [s2_by h1 h2]
  rfl
theorem en_ifnonnull {a b : Nat} (h0 : by_ code pc 199) (h1 : by_ code (pc + 1) a) (h2 : by_ code (pc + 1 + 1) b) : decode code pc = .ok (.ifnonnull (Jvm.ClassFile.Reader.signed 16 (a * 256 + b)), 3) := by
  refine dec_of ?_
  unfold Jvm.ClassFile.Decoder.instr
  show Except.bind ((Jvm.ClassFile.Reader.u1 : Jvm.ClassFile.Decoder Nat) code pc) _ = _
  rw [u1_by h0]
  show Except.bind ((Jvm.ClassFile.Reader.s2 : Jvm.ClassFile.Decoder Int) code (pc + 1)) _ = _
  rw [s2_by h1 h2]
  rfl
theorem en_sipush {a b : Nat} (h0 : by_ code pc 17) (h1 : by_ code (pc + 1) a) (h2 : by_ code (pc + 1 + 1) b) : decode code pc = .ok (.sipush (Jvm.ClassFile.Reader.signed 16 (a * 256 + b)), 3) := by
  refine dec_of ?_
  unfold Jvm.ClassFile.Decoder.instr
  show Except.bind ((Jvm.ClassFile.Reader.u1 : Jvm.ClassFile.Decoder Nat) code pc) _ = _
  rw [u1_by h0]
  show Except.bind ((Jvm.ClassFile.Reader.s2 : Jvm.ClassFile.Decoder Int) code (pc + 1)) _ = _
  rw [s2_by h1 h2]
  rfl
theorem en_bipush {a : Nat} (h0 : by_ code pc 16) (h1 : by_ code (pc + 1) a) : decode code pc = .ok (.bipush (Jvm.ClassFile.Reader.signed 8 a), 2) := by
  refine dec_of ?_
  unfold Jvm.ClassFile.Decoder.instr
  show Except.bind ((Jvm.ClassFile.Reader.u1 : Jvm.ClassFile.Decoder Nat) code pc) _ = _
  rw [u1_by h0]
  show Except.bind ((Jvm.ClassFile.Reader.s1 : Jvm.ClassFile.Decoder Int) code (pc + 1)) _ = _
  rw [s1_by h1]
  rfl
theorem en_iinc {n a : Nat} (h0 : by_ code pc 132) (h1 : by_ code (pc + 1) n) (h2 : by_ code (pc + 1 + 1) a) : decode code pc = .ok (.iinc n (Jvm.ClassFile.Reader.signed 8 a), 3) := by
  refine dec_of ?_
  unfold Jvm.ClassFile.Decoder.instr
  show Except.bind ((Jvm.ClassFile.Reader.u1 : Jvm.ClassFile.Decoder Nat) code pc) _ = _
  rw [u1_by h0]
  show Except.bind ((Jvm.ClassFile.Reader.u1 : Jvm.ClassFile.Decoder Nat) code (pc + 1)) _ = _
  rw [u1_by h1]
  show Except.bind ((Jvm.ClassFile.Reader.s1 : Jvm.ClassFile.Decoder Int) code (pc + 1 + 1)) _ = _
  rw [s1_by h2]
  rfl
theorem en_newarray_boolean (h0 : by_ code pc 188) (h1 : by_ code (pc + 1) 4) : decode code pc = .ok (.newarray .boolean, 2) := by
  refine dec_of ?_
  unfold Jvm.ClassFile.Decoder.instr Jvm.ClassFile.Decoder.newarray
  show Except.bind ((Jvm.ClassFile.Reader.u1 : Jvm.ClassFile.Decoder Nat) code pc) _ = _
  rw [u1_by h0]
  show Except.bind ((Jvm.ClassFile.Reader.u1 : Jvm.ClassFile.Decoder Nat) code (pc + 1)) _ = _
  rw [u1_by h1]
  rfl
theorem en_newarray_byte (h0 : by_ code pc 188) (h1 : by_ code (pc + 1) 8) : decode code pc = .ok (.newarray .byte, 2) := by
  refine dec_of ?_
  unfold Jvm.ClassFile.Decoder.instr Jvm.ClassFile.Decoder.newarray
  show Except.bind ((Jvm.ClassFile.Reader.u1 : Jvm.ClassFile.Decoder Nat) code pc) _ = _
  rw [u1_by h0]
  show Except.bind ((Jvm.ClassFile.Reader.u1 : Jvm.ClassFile.Decoder Nat) code (pc + 1)) _ = _
  rw [u1_by h1]
  rfl
theorem en_newarray_int (h0 : by_ code pc 188) (h1 : by_ code (pc + 1) 10) : decode code pc = .ok (.newarray .int, 2) := by
  refine dec_of ?_
  unfold Jvm.ClassFile.Decoder.instr Jvm.ClassFile.Decoder.newarray
  show Except.bind ((Jvm.ClassFile.Reader.u1 : Jvm.ClassFile.Decoder Nat) code pc) _ = _
  rw [u1_by h0]
  show Except.bind ((Jvm.ClassFile.Reader.u1 : Jvm.ClassFile.Decoder Nat) code (pc + 1)) _ = _
  rw [u1_by h1]
  rfl
theorem en_newarray_long (h0 : by_ code pc 188) (h1 : by_ code (pc + 1) 11) : decode code pc = .ok (.newarray .long, 2) := by
  refine dec_of ?_
  unfold Jvm.ClassFile.Decoder.instr Jvm.ClassFile.Decoder.newarray
  show Except.bind ((Jvm.ClassFile.Reader.u1 : Jvm.ClassFile.Decoder Nat) code pc) _ = _
  rw [u1_by h0]
  show Except.bind ((Jvm.ClassFile.Reader.u1 : Jvm.ClassFile.Decoder Nat) code (pc + 1)) _ = _
  rw [u1_by h1]
  rfl
theorem enc_ok {i : Instr} (hn : enc i ≠ []) (h : ∀ k v, (enc i)[k]? = some v → by_ code (pc + k) v) : decode code pc = .ok (i, (enc i).length) := by
  have z1 : ∀ {op n : Nat}, e1 op n ≠ [] → n < 256 ∧ e1 op n = [op, n] := by
    intro op n q
    unfold e1 at q ⊢
    cases c : Nat.blt n 256 with
    | true => exact ⟨Nat.blt_eq.mp c, rfl⟩
    | false => rw [c] at q; exact absurd rfl q
  have z2 : ∀ {op n : Nat}, e2 op n ≠ [] → n / 256 * 256 + n % 256 = n ∧ e2 op n = [op, n / 256, n % 256] := by
    intro op n q
    unfold e2 at q ⊢
    cases c : Nat.blt n 65536 with
    | true => exact ⟨by omega, rfl⟩
    | false => rw [c] at q; exact absurd rfl q
  have y1 : ∀ {op : Nat} {z : Int}, t1 op z ≠ [] → ∃ a, t1 op z = [op, a] ∧ Jvm.ClassFile.Reader.signed 8 a = z := by
    intro op z q
    unfold t1 at q ⊢
    cases z with
    | ofNat k =>
      dsimp only at q ⊢
      cases c : Nat.blt k 128 with
      | true => exact ⟨k, rfl, sg8 (Nat.blt_eq.mp c)⟩
      | false => rw [c] at q; exact absurd rfl q
    | negSucc k =>
      dsimp only at q ⊢
      cases c : Nat.blt k 128 with
      | true => exact ⟨255 - k, rfl, sg8n (Nat.blt_eq.mp c)⟩
      | false => rw [c] at q; exact absurd rfl q
  have y2 : ∀ {op : Nat} {z : Int}, t2 op z ≠ [] → ∃ a b, t2 op z = [op, a, b] ∧ Jvm.ClassFile.Reader.signed 16 (a * 256 + b) = z := by
    intro op z q
    unfold t2 at q ⊢
    cases z with
    | ofNat k =>
      dsimp only at q ⊢
      cases c : Nat.blt k 32768 with
      | true => exact ⟨k / 256, k % 256, rfl, sg16 (Nat.blt_eq.mp c)⟩
      | false => rw [c] at q; exact absurd rfl q
    | negSucc k =>
      dsimp only at q ⊢
      cases c : Nat.blt k 32768 with
      | true => exact ⟨(65535 - k) / 256, (65535 - k) % 256, rfl, sg16n (Nat.blt_eq.mp c)⟩
      | false => rw [c] at q; exact absurd rfl q
  have g1 : ∀ {a b : Nat}, enc i = [a, b] → by_ code pc a ∧ by_ code (pc + 1) b := by
    intro a b q
    rw [q] at h
    exact ⟨h 0 a rfl, h 1 b rfl⟩
  have g2 : ∀ {a b c : Nat}, enc i = [a, b, c] → by_ code pc a ∧ by_ code (pc + 1) b ∧ by_ code (pc + 1 + 1) c := by
    intro a b c q
    rw [q] at h
    exact ⟨h 0 a rfl, h 1 b rfl, h 2 c rfl⟩
  cases i with
  | aaload => exact en_aaload (h 0 _ rfl)
  | aastore => exact en_aastore (h 0 _ rfl)
  | aconst_null => exact en_aconst_null (h 0 _ rfl)
  | areturn => exact en_areturn (h 0 _ rfl)
  | arraylength => exact en_arraylength (h 0 _ rfl)
  | athrow => exact en_athrow (h 0 _ rfl)
  | baload => exact en_baload (h 0 _ rfl)
  | bastore => exact en_bastore (h 0 _ rfl)
  | dup => exact en_dup (h 0 _ rfl)
  | dup2 => exact en_dup2 (h 0 _ rfl)
  | dup_x1 => exact en_dup_x1 (h 0 _ rfl)
  | i2b => exact en_i2b (h 0 _ rfl)
  | i2c => exact en_i2c (h 0 _ rfl)
  | i2l => exact en_i2l (h 0 _ rfl)
  | i2s => exact en_i2s (h 0 _ rfl)
  | iadd => exact en_iadd (h 0 _ rfl)
  | iaload => exact en_iaload (h 0 _ rfl)
  | iand => exact en_iand (h 0 _ rfl)
  | iastore => exact en_iastore (h 0 _ rfl)
  | idiv => exact en_idiv (h 0 _ rfl)
  | imul => exact en_imul (h 0 _ rfl)
  | ineg => exact en_ineg (h 0 _ rfl)
  | ior => exact en_ior (h 0 _ rfl)
  | irem => exact en_irem (h 0 _ rfl)
  | ireturn => exact en_ireturn (h 0 _ rfl)
  | ishl => exact en_ishl (h 0 _ rfl)
  | ishr => exact en_ishr (h 0 _ rfl)
  | isub => exact en_isub (h 0 _ rfl)
  | iushr => exact en_iushr (h 0 _ rfl)
  | ixor => exact en_ixor (h 0 _ rfl)
  | l2i => exact en_l2i (h 0 _ rfl)
  | ladd => exact en_ladd (h 0 _ rfl)
  | laload => exact en_laload (h 0 _ rfl)
  | land => exact en_land (h 0 _ rfl)
  | lastore => exact en_lastore (h 0 _ rfl)
  | lcmp => exact en_lcmp (h 0 _ rfl)
  | ldiv => exact en_ldiv (h 0 _ rfl)
  | lmul => exact en_lmul (h 0 _ rfl)
  | lor => exact en_lor (h 0 _ rfl)
  | lrem => exact en_lrem (h 0 _ rfl)
  | lreturn => exact en_lreturn (h 0 _ rfl)
  | lshl => exact en_lshl (h 0 _ rfl)
  | lsub => exact en_lsub (h 0 _ rfl)
  | pop => exact en_pop (h 0 _ rfl)
  | pop2 => exact en_pop2 (h 0 _ rfl)
  | return_ => exact en_return_ (h 0 _ rfl)
  | iload_n n => match n with
    | 0 => exact en_iload_n0 (h 0 _ rfl)
    | 1 => exact en_iload_n1 (h 0 _ rfl)
    | 2 => exact en_iload_n2 (h 0 _ rfl)
    | 3 => exact en_iload_n3 (h 0 _ rfl)
  | lload_n n => match n with
    | 0 => exact en_lload_n0 (h 0 _ rfl)
    | 1 => exact en_lload_n1 (h 0 _ rfl)
    | 2 => exact en_lload_n2 (h 0 _ rfl)
    | 3 => exact en_lload_n3 (h 0 _ rfl)
  | aload_n n => match n with
    | 0 => exact en_aload_n0 (h 0 _ rfl)
    | 1 => exact en_aload_n1 (h 0 _ rfl)
    | 2 => exact en_aload_n2 (h 0 _ rfl)
    | 3 => exact en_aload_n3 (h 0 _ rfl)
  | istore_n n => match n with
    | 0 => exact en_istore_n0 (h 0 _ rfl)
    | 1 => exact en_istore_n1 (h 0 _ rfl)
    | 2 => exact en_istore_n2 (h 0 _ rfl)
    | 3 => exact en_istore_n3 (h 0 _ rfl)
  | lstore_n n => match n with
    | 0 => exact en_lstore_n0 (h 0 _ rfl)
    | 1 => exact en_lstore_n1 (h 0 _ rfl)
    | 2 => exact en_lstore_n2 (h 0 _ rfl)
    | 3 => exact en_lstore_n3 (h 0 _ rfl)
  | astore_n n => match n with
    | 0 => exact en_astore_n0 (h 0 _ rfl)
    | 1 => exact en_astore_n1 (h 0 _ rfl)
    | 2 => exact en_astore_n2 (h 0 _ rfl)
    | 3 => exact en_astore_n3 (h 0 _ rfl)
  | iload n =>
    obtain ⟨q1, q2⟩ := z1 (op := 21) (n := n) hn
    obtain ⟨p0, p1⟩ := g1 q2
    rw [show enc (.iload n) = [21, n] from q2]
    exact en_iload p0 p1
  | lload n =>
    obtain ⟨q1, q2⟩ := z1 (op := 22) (n := n) hn
    obtain ⟨p0, p1⟩ := g1 q2
    rw [show enc (.lload n) = [22, n] from q2]
    exact en_lload p0 p1
  | aload n =>
    obtain ⟨q1, q2⟩ := z1 (op := 25) (n := n) hn
    obtain ⟨p0, p1⟩ := g1 q2
    rw [show enc (.aload n) = [25, n] from q2]
    exact en_aload p0 p1
  | istore n =>
    obtain ⟨q1, q2⟩ := z1 (op := 54) (n := n) hn
    obtain ⟨p0, p1⟩ := g1 q2
    rw [show enc (.istore n) = [54, n] from q2]
    exact en_istore p0 p1
  | lstore n =>
    obtain ⟨q1, q2⟩ := z1 (op := 55) (n := n) hn
    obtain ⟨p0, p1⟩ := g1 q2
    rw [show enc (.lstore n) = [55, n] from q2]
    exact en_lstore p0 p1
  | astore n =>
    obtain ⟨q1, q2⟩ := z1 (op := 58) (n := n) hn
    obtain ⟨p0, p1⟩ := g1 q2
    rw [show enc (.astore n) = [58, n] from q2]
    exact en_astore p0 p1
  | ldc n =>
    obtain ⟨q1, q2⟩ := z1 (op := 18) (n := n) hn
    obtain ⟨p0, p1⟩ := g1 q2
    rw [show enc (.ldc n) = [18, n] from q2]
    exact en_ldc p0 p1
  | ldc_w n =>
    obtain ⟨q1, q2⟩ := z2 (op := 19) (n := n) hn
    obtain ⟨p0, p1, p2⟩ := g2 q2
    have r := en_ldc_w p0 p1 p2
    rw [q1] at r
    rw [show enc (.ldc_w n) = [19, n / 256, n % 256] from q2]
    exact r
  | ldc2_w n =>
    obtain ⟨q1, q2⟩ := z2 (op := 20) (n := n) hn
    obtain ⟨p0, p1, p2⟩ := g2 q2
    have r := en_ldc2_w p0 p1 p2
    rw [q1] at r
    rw [show enc (.ldc2_w n) = [20, n / 256, n % 256] from q2]
    exact r
  | getfield n =>
    obtain ⟨q1, q2⟩ := z2 (op := 180) (n := n) hn
    obtain ⟨p0, p1, p2⟩ := g2 q2
    have r := en_getfield p0 p1 p2
    rw [q1] at r
    rw [show enc (.getfield n) = [180, n / 256, n % 256] from q2]
    exact r
  | putfield n =>
    obtain ⟨q1, q2⟩ := z2 (op := 181) (n := n) hn
    obtain ⟨p0, p1, p2⟩ := g2 q2
    have r := en_putfield p0 p1 p2
    rw [q1] at r
    rw [show enc (.putfield n) = [181, n / 256, n % 256] from q2]
    exact r
  | getstatic n =>
    obtain ⟨q1, q2⟩ := z2 (op := 178) (n := n) hn
    obtain ⟨p0, p1, p2⟩ := g2 q2
    have r := en_getstatic p0 p1 p2
    rw [q1] at r
    rw [show enc (.getstatic n) = [178, n / 256, n % 256] from q2]
    exact r
  | invokevirtual n =>
    obtain ⟨q1, q2⟩ := z2 (op := 182) (n := n) hn
    obtain ⟨p0, p1, p2⟩ := g2 q2
    have r := en_invokevirtual p0 p1 p2
    rw [q1] at r
    rw [show enc (.invokevirtual n) = [182, n / 256, n % 256] from q2]
    exact r
  | invokespecial n =>
    obtain ⟨q1, q2⟩ := z2 (op := 183) (n := n) hn
    obtain ⟨p0, p1, p2⟩ := g2 q2
    have r := en_invokespecial p0 p1 p2
    rw [q1] at r
    rw [show enc (.invokespecial n) = [183, n / 256, n % 256] from q2]
    exact r
  | invokestatic n =>
    obtain ⟨q1, q2⟩ := z2 (op := 184) (n := n) hn
    obtain ⟨p0, p1, p2⟩ := g2 q2
    have r := en_invokestatic p0 p1 p2
    rw [q1] at r
    rw [show enc (.invokestatic n) = [184, n / 256, n % 256] from q2]
    exact r
  | new n =>
    obtain ⟨q1, q2⟩ := z2 (op := 187) (n := n) hn
    obtain ⟨p0, p1, p2⟩ := g2 q2
    have r := en_new p0 p1 p2
    rw [q1] at r
    rw [show enc (.new n) = [187, n / 256, n % 256] from q2]
    exact r
  | anewarray n =>
    obtain ⟨q1, q2⟩ := z2 (op := 189) (n := n) hn
    obtain ⟨p0, p1, p2⟩ := g2 q2
    have r := en_anewarray p0 p1 p2
    rw [q1] at r
    rw [show enc (.anewarray n) = [189, n / 256, n % 256] from q2]
    exact r
  | ifCond c z => cases c with
    | eq =>
      obtain ⟨a, b, q2, q1⟩ := y2 (op := 153) (z := z) hn
      obtain ⟨p0, p1, p2⟩ := g2 q2
      have r := en_ifCond_eq p0 p1 p2
      rw [q1] at r
      rw [show enc (.ifCond .eq z) = [153, a, b] from q2]
      exact r
    | ne =>
      obtain ⟨a, b, q2, q1⟩ := y2 (op := 154) (z := z) hn
      obtain ⟨p0, p1, p2⟩ := g2 q2
      have r := en_ifCond_ne p0 p1 p2
      rw [q1] at r
      rw [show enc (.ifCond .ne z) = [154, a, b] from q2]
      exact r
    | lt =>
      obtain ⟨a, b, q2, q1⟩ := y2 (op := 155) (z := z) hn
      obtain ⟨p0, p1, p2⟩ := g2 q2
      have r := en_ifCond_lt p0 p1 p2
      rw [q1] at r
      rw [show enc (.ifCond .lt z) = [155, a, b] from q2]
      exact r
    | ge =>
      obtain ⟨a, b, q2, q1⟩ := y2 (op := 156) (z := z) hn
      obtain ⟨p0, p1, p2⟩ := g2 q2
      have r := en_ifCond_ge p0 p1 p2
      rw [q1] at r
      rw [show enc (.ifCond .ge z) = [156, a, b] from q2]
      exact r
    | gt =>
      obtain ⟨a, b, q2, q1⟩ := y2 (op := 157) (z := z) hn
      obtain ⟨p0, p1, p2⟩ := g2 q2
      have r := en_ifCond_gt p0 p1 p2
      rw [q1] at r
      rw [show enc (.ifCond .gt z) = [157, a, b] from q2]
      exact r
    | le =>
      obtain ⟨a, b, q2, q1⟩ := y2 (op := 158) (z := z) hn
      obtain ⟨p0, p1, p2⟩ := g2 q2
      have r := en_ifCond_le p0 p1 p2
      rw [q1] at r
      rw [show enc (.ifCond .le z) = [158, a, b] from q2]
      exact r
  | if_icmp c z => cases c with
    | eq =>
      obtain ⟨a, b, q2, q1⟩ := y2 (op := 159) (z := z) hn
      obtain ⟨p0, p1, p2⟩ := g2 q2
      have r := en_if_icmp_eq p0 p1 p2
      rw [q1] at r
      rw [show enc (.if_icmp .eq z) = [159, a, b] from q2]
      exact r
    | ne =>
      obtain ⟨a, b, q2, q1⟩ := y2 (op := 160) (z := z) hn
      obtain ⟨p0, p1, p2⟩ := g2 q2
      have r := en_if_icmp_ne p0 p1 p2
      rw [q1] at r
      rw [show enc (.if_icmp .ne z) = [160, a, b] from q2]
      exact r
    | lt =>
      obtain ⟨a, b, q2, q1⟩ := y2 (op := 161) (z := z) hn
      obtain ⟨p0, p1, p2⟩ := g2 q2
      have r := en_if_icmp_lt p0 p1 p2
      rw [q1] at r
      rw [show enc (.if_icmp .lt z) = [161, a, b] from q2]
      exact r
    | ge =>
      obtain ⟨a, b, q2, q1⟩ := y2 (op := 162) (z := z) hn
      obtain ⟨p0, p1, p2⟩ := g2 q2
      have r := en_if_icmp_ge p0 p1 p2
      rw [q1] at r
      rw [show enc (.if_icmp .ge z) = [162, a, b] from q2]
      exact r
    | gt =>
      obtain ⟨a, b, q2, q1⟩ := y2 (op := 163) (z := z) hn
      obtain ⟨p0, p1, p2⟩ := g2 q2
      have r := en_if_icmp_gt p0 p1 p2
      rw [q1] at r
      rw [show enc (.if_icmp .gt z) = [163, a, b] from q2]
      exact r
    | le =>
      obtain ⟨a, b, q2, q1⟩ := y2 (op := 164) (z := z) hn
      obtain ⟨p0, p1, p2⟩ := g2 q2
      have r := en_if_icmp_le p0 p1 p2
      rw [q1] at r
      rw [show enc (.if_icmp .le z) = [164, a, b] from q2]
      exact r
  | goto z =>
    obtain ⟨a, b, q2, q1⟩ := y2 (op := 167) (z := z) hn
    obtain ⟨p0, p1, p2⟩ := g2 q2
    have r := en_goto p0 p1 p2
    rw [q1] at r
    rw [show enc (.goto z) = [167, a, b] from q2]
    exact r
  | ifnull z =>
    obtain ⟨a, b, q2, q1⟩ := y2 (op := 198) (z := z) hn
    obtain ⟨p0, p1, p2⟩ := g2 q2
    have r := en_ifnull p0 p1 p2
    rw [q1] at r
    rw [show enc (.ifnull z) = [198, a, b] from q2]
    exact r
  | ifnonnull z =>
    obtain ⟨a, b, q2, q1⟩ := y2 (op := 199) (z := z) hn
    obtain ⟨p0, p1, p2⟩ := g2 q2
    have r := en_ifnonnull p0 p1 p2
    rw [q1] at r
    rw [show enc (.ifnonnull z) = [199, a, b] from q2]
    exact r
  | sipush z =>
    obtain ⟨a, b, q2, q1⟩ := y2 (op := 17) (z := z) hn
    obtain ⟨p0, p1, p2⟩ := g2 q2
    have r := en_sipush p0 p1 p2
    rw [q1] at r
    rw [show enc (.sipush z) = [17, a, b] from q2]
    exact r
  | bipush z =>
    obtain ⟨a, q2, q1⟩ := y1 (op := 16) (z := z) hn
    obtain ⟨p0, p1⟩ := g1 q2
    have r := en_bipush p0 p1
    rw [q1] at r
    rw [show enc (.bipush z) = [16, a] from q2]
    exact r
  | iinc n z =>
    have en : enc (.iinc n z) = (match e1 132 n, t1 0 z with
      | [a, b], [_, c] => [a, b, c]
      | _, _ => []) := rfl
    by_cases c1 : e1 132 n = []
    · rw [en, c1] at hn
      exact absurd rfl hn
    by_cases c2 : t1 0 z = []
    · obtain ⟨-, q2⟩ := z1 c1
      rw [en, c2, q2] at hn
      exact absurd rfl hn
    obtain ⟨-, q2⟩ := z1 c1
    obtain ⟨a, q3, q4⟩ := y1 c2
    rw [q2, q3] at en
    obtain ⟨p0, p1, p2⟩ := g2 en
    have r := en_iinc p0 p1 p2
    rw [q4] at r
    rw [en]
    exact r
  | iconst z =>
    match z with
    | .negSucc 0 => exact en_iconstm1 (h 0 _ rfl)
    | .negSucc (k + 1) => exact absurd rfl hn
    | .ofNat 0 => exact en_iconst0 (h 0 _ rfl)
    | .ofNat 1 => exact en_iconst1 (h 0 _ rfl)
    | .ofNat 2 => exact en_iconst2 (h 0 _ rfl)
    | .ofNat 3 => exact en_iconst3 (h 0 _ rfl)
    | .ofNat 4 => exact en_iconst4 (h 0 _ rfl)
    | .ofNat 5 => exact en_iconst5 (h 0 _ rfl)
    | .ofNat (k + 6) =>
      have : enc (.iconst (.ofNat (k + 6))) = [] := by
        show (bif Nat.blt (k + 6) 6 then [3 + (k + 6)] else []) = []
        cases c : Nat.blt (k + 6) 6 with
        | true => have := Nat.blt_eq.mp c; omega
        | false => rfl
      exact absurd this hn
  | lconst n => match n with
    | 0 => exact en_lconst0 (h 0 _ rfl)
    | 1 => exact en_lconst1 (h 0 _ rfl)
  | newarray t => cases t with
    | boolean => exact en_newarray_boolean (h 0 _ rfl) (h 1 _ rfl)
    | byte => exact en_newarray_byte (h 0 _ rfl) (h 1 _ rfl)
    | int => exact en_newarray_int (h 0 _ rfl) (h 1 _ rfl)
    | long => exact en_newarray_long (h 0 _ rfl) (h 1 _ rfl)
    | _ => exact absurd rfl hn
  | _ => exact absurd rfl hn
end EN
theorem by_of {code : ByteArray} {p : Nat} {b : UInt8} (h : code.data.toList[p]? = some b) : by_ code p b.toNat := by
  rw [Array.getElem?_toList] at h
  obtain ⟨h1, h2⟩ := Array.getElem?_eq_some_iff.mp h
  exact ⟨h1, congrArg UInt8.toNat h2⟩
def zstrip : List Nat → List UInt8 → Option (List UInt8)
  | [], bs => some bs
  | v :: r, b :: bs => bif Nat.beq b.toNat v then zstrip r bs else none
  | _ :: _, [] => none
theorem zstrip_s : ∀ {e : List Nat} {bs bs' : List UInt8}, zstrip e bs = some bs' → bs' = bs.drop e.length ∧ ∀ (k v : Nat), e[k]? = some v → ∃ b : UInt8, bs[k]? = some b ∧ b.toNat = v
  | [], bs, bs', h => by
    unfold zstrip at h
    cases h
    exact ⟨rfl, fun k v q => by simp at q⟩
  | v :: r, [], bs', h => by
    unfold zstrip at h
    cases h
  | v :: r, b :: bs, bs', h => by
    unfold zstrip at h
    cases c : Nat.beq b.toNat v with
    | false => rw [c] at h; cases h
    | true =>
      rw [c] at h
      obtain ⟨h1, h2⟩ := zstrip_s (show zstrip r bs = some bs' from h)
      refine ⟨h1, fun k v' q => ?_⟩
      cases k with
      | zero =>
        simp only [List.getElem?_cons_zero, Option.some.injEq] at q
        exact ⟨b, rfl, q ▸ Nat.eq_of_beq_eq_true c⟩
      | succ k =>
        rw [List.getElem?_cons_succ] at q
        obtain ⟨b', q1, q2⟩ := h2 k v' q
        exact ⟨b', by rw [List.getElem?_cons_succ]; exact q1, q2⟩
def zwk (own : Nat) (code : ByteArray) : List aI → List UInt8 → Nat → Bool
  | [], _, _ => true
  | i :: r, bs, pc => zchkI own i && Nat.beq i.1 pc && (match enc i.2.1 with
    | [] => decide (decode code i.1 = .ok (i.2.1, zlen i.2.1 i.2.2.1)) && zwk own code r (bs.drop (zlen i.2.1 i.2.2.1)) (pc + zlen i.2.1 i.2.2.1)
    | a :: e => Nat.beq (e.length + 1) (zlen i.2.1 i.2.2.1) && (match zstrip (a :: e) bs with
      | some bs' => zwk own code r bs' (pc + (e.length + 1))
      | none => false))
theorem zwk_s {own : Nat} {code : ByteArray} : ∀ {il : List aI} {bs : List UInt8} {pc : Nat}, zwk own code il bs pc = true → bs = code.data.toList.drop pc → zchk own code il = true
  | [], _, _, _, _ => rfl
  | i :: r, bs, pc, h, hb => by
    unfold zwk at h
    rw [Bool.and_eq_true, Bool.and_eq_true] at h
    obtain ⟨⟨h1, h2⟩, h3⟩ := h
    have e0 : i.1 = pc := Nat.eq_of_beq_eq_true h2
    have fin : decode code i.1 = .ok (i.2.1, zlen i.2.1 i.2.2.1) → zchk own code r = true → zchk own code (i :: r) = true := by
      intro q1 q2
      unfold zchk at q2 ⊢
      rw [List.all_cons, q2, h1, decide_eq_true q1]
      rfl
    split at h3
    · rw [Bool.and_eq_true] at h3
      refine fin (of_decide_eq_true h3.1) (zwk_s h3.2 ?_)
      rw [hb, List.drop_drop]
    · rename_i a e he
      rw [Bool.and_eq_true] at h3
      obtain ⟨h4, h5⟩ := h3
      split at h5
      · rename_i bs' hs
        obtain ⟨s1, s2⟩ := zstrip_s hs
        have e4 := Nat.eq_of_beq_eq_true h4
        refine fin ?_ (zwk_s h5 ?_)
        · have := enc_ok (code := code) (pc := i.1) (i := i.2.1) (by rw [he]; exact List.cons_ne_nil _ _) (fun k v q => by
            rw [he] at q
            obtain ⟨b, b1, b2⟩ := s2 k v q
            rw [hb, List.getElem?_drop] at b1
            rw [e0, ← b2]
            exact by_of b1)
          rw [this, he, ← e4]
          rfl
        · rw [s1, hb, List.drop_drop, List.length_cons]
      · cases h5
theorem zf_ok {own : Nat} {code : ByteArray} {il : List aI} (p : Nat) (h : zwk own code il (code.data.toList.drop p) p = true) : zchk own code il = true := zwk_s h rfl

-- ===== a small machine of our own over cells by number: what a method does, as a function =====
abbrev aC : Type := (Nat × vp_A) ⊕ (Nat × List Value)
abbrev aH : Type := List aC × Nat
abbrev aL : Type := List (Option Value)
abbrev aR : Type := Option Value × aH
abbrev aX : Type := Nat → Option (Nat × (Nat → Int32))
def aF (pc : Nat) : List aI → Option aI
  | [] => none
  | q :: r => bif Nat.beq q.1 pc then some q else aF pc r
def aG (L : aL) (i : Nat) : Option Value := match L[i]? with
  | some (some v) => some v
  | _ => none
def aclr (L : aL) (i : Nat) : aL := match i with
  | 0 => L
  | j + 1 => match L[j]? with
    | some (some (.long _)) => L.set j none
    | some (some (.double _)) => L.set j none
    | _ => L
def aS1 (L : aL) (i : Nat) (v : Value) : aL := (aclr L i).set i (some v)
def aS2 (L : aL) (i : Nat) (v : Value) : aL := ((aclr L i).set i (some v)).set (i + 1) none
def aE : Nat → List Value → aL
  | n, [] => List.replicate n none
  | n, v :: r => bif Nat.beq v.category 2 then some v :: none :: aE (n - 2) r else some v :: aE (n - 1) r
def aws : List Value → Nat
  | [] => 0
  | v :: r => v.category + aws r
def aok1 (v : Value) : Bool := match v with
  | .long _ => false
  | .double _ => false
  | _ => true
-- what lies on top of the stack
def tI (st : List Value) (f : Int32 → List Value → Option aR) : Option aR := match st with
  | .int x :: r => f x r
  | _ => none
def tII (st : List Value) (f : Int32 → Int32 → List Value → Option aR) : Option aR := match st with
  | .int y :: .int x :: r => f x y r
  | _ => none
def tJ (st : List Value) (f : Int64 → List Value → Option aR) : Option aR := match st with
  | .long x :: r => f x r
  | _ => none
def tJJ (st : List Value) (f : Int64 → Int64 → List Value → Option aR) : Option aR := match st with
  | .long y :: .long x :: r => f x y r
  | _ => none
def tJI (st : List Value) (f : Int64 → Int32 → List Value → Option aR) : Option aR := match st with
  | .int y :: .long x :: r => f x y r
  | _ => none
def aok (ty : FieldType) (v : Value) : Bool := match ty, v with
  | .int, .int _ => true
  | .long, .long _ => true
  | .boolean, .int x => x == 0 || x == 1
  | .object _, .ref _ => true
  | .object _, .null => true
  | .array _, .ref _ => true
  | .array _, .null => true
  | _, _ => false
def aobj (h : aH) (o a : Nat) (f : List Value → Option aR) : Option aR := match h.1[o]? with
  | some (.inr (ci, fs)) => bif Nat.beq ci a then f fs else none
  | _ => none
def aarI (h : aH) (o : Nat) (f : Nat → Nat → (Nat → Int32) → Option aR) : Option aR := match h.1[o]? with
  | some (.inl (t, n, .inl g)) => f t n g
  | _ => none
def aarJ (h : aH) (o : Nat) (f : Nat → (Nat → Int64) → Option aR) : Option aR := match h.1[o]? with
  | some (.inl (1, n, .inr (.inl g))) => f n g
  | _ => none
def aarR (h : aH) (o : Nat) (f : Nat → Nat → (Nat → Option Nat) → Option aR) : Option aR := match h.1[o]? with
  | some (.inl (t, n, .inr (.inr (.inr (.inr g))))) => f t n g
  | _ => none
def arf (x : Option Nat) : Value := match x with
  | some q => .ref q
  | none => .null
def azero (t : Nat) : (Nat → Int32) ⊕ (Nat → Int64) ⊕ (Nat → UInt32) ⊕ (Nat → UInt64) ⊕ (Nat → Option Nat) := match t with
  | 1 => .inr (.inl (fun _ => 0))
  | _ => .inl (fun _ => 0)
def asw (x : Int32) (k : Int → Option aR) (d : Int) : Int → List Int → Option aR
  | _, [] => k d
  | lo, o :: r => if x = Int32.ofInt lo then k o else asw x k d (lo + 1) r
def alw (x : Int32) (k : Int → Option aR) (d : Int) : List (Int × Int) → Option aR
  | [] => k d
  | q :: r => if x = Int32.ofInt q.1 then k q.2 else alw x k d r
set_option maxHeartbeats 4000000 in
/-- an instruction that is neither a call nor a return -/
def aX1 (X : aX) (own kind : Nat) (k : Nat → aL → List Value → aH → Option aR) (i : aI) (L : aL) (st : List Value) (h : aH) : Option aR := match i.2.1 with
  | .aconst_null => k (i.1 + 1) L (.null :: st) h
  | .iconst z => k (i.1 + 1) L (.int (Int32.ofInt z) :: st) h
  | .bipush z => k (i.1 + 2) L (.int (Int8.ofInt z).toInt32 :: st) h
  | .sipush z => k (i.1 + 3) L (.int (Int16.ofInt z).toInt32 :: st) h
  | .lconst z => k (i.1 + 1) L (.long (Int64.ofNat z) :: st) h
  | .ldc _ => bif Nat.beq i.2.2.2.1 4294967296 then k (i.1 + 2) L (.retAddr 2 :: st) h else k (i.1 + 2) L (.int (Int32.ofNat i.2.2.2.1) :: st) h
  | .ldc_w _ => k (i.1 + 3) L (.int (Int32.ofNat i.2.2.2.1) :: st) h
  | .ldc2_w _ => k (i.1 + 3) L (.long (Int64.ofNat i.2.2.2.1) :: st) h
  | .iload_n z => match aG L z with
    | some (.int x) => k (i.1 + 1) L (.int x :: st) h
    | _ => none
  | .iload z => match aG L z with
    | some (.int x) => k (i.1 + 2) L (.int x :: st) h
    | _ => none
  | .lload_n z => match aG L z with
    | some (.long x) => k (i.1 + 1) L (.long x :: st) h
    | _ => none
  | .lload z => match aG L z with
    | some (.long x) => k (i.1 + 2) L (.long x :: st) h
    | _ => none
  | .aload_n z => match aG L z with
    | some (.ref x) => k (i.1 + 1) L (.ref x :: st) h
    | some (.retAddr x) => k (i.1 + 1) L (.retAddr x :: st) h
    | some .null => k (i.1 + 1) L (.null :: st) h
    | _ => none
  | .aload z => match aG L z with
    | some (.ref x) => k (i.1 + 2) L (.ref x :: st) h
    | some (.retAddr x) => k (i.1 + 2) L (.retAddr x :: st) h
    | some .null => k (i.1 + 2) L (.null :: st) h
    | _ => none
  | .istore_n z => tI st fun x r => bif Nat.blt z L.length then k (i.1 + 1) (aS1 L z (.int x)) r h else none
  | .istore z => tI st fun x r => bif Nat.blt z L.length then k (i.1 + 2) (aS1 L z (.int x)) r h else none
  | .lstore_n z => tJ st fun x r => bif Nat.blt (z + 1) L.length then k (i.1 + 1) (aS2 L z (.long x)) r h else none
  | .lstore z => tJ st fun x r => bif Nat.blt (z + 1) L.length then k (i.1 + 2) (aS2 L z (.long x)) r h else none
  | .astore_n z => match st with
    | .ref x :: r => bif Nat.blt z L.length then k (i.1 + 1) (aS1 L z (.ref x)) r h else none
    | .null :: r => bif Nat.blt z L.length then k (i.1 + 1) (aS1 L z .null) r h else none
    | _ => none
  | .astore z => match st with
    | .ref x :: r => bif Nat.blt z L.length then k (i.1 + 2) (aS1 L z (.ref x)) r h else none
    | .null :: r => bif Nat.blt z L.length then k (i.1 + 2) (aS1 L z .null) r h else none
    | _ => none
  | .iinc z c => match aG L z with
    | some (.int x) => k (i.1 + 3) (aS1 L z (.int (x + Int32.ofInt c))) st h
    | _ => none
  | .iadd => tII st fun x y r => k (i.1 + 1) L (.int (x + y) :: r) h
  | .isub => tII st fun x y r => k (i.1 + 1) L (.int (x - y) :: r) h
  | .imul => tII st fun x y r => k (i.1 + 1) L (.int (x * y) :: r) h
  | .iand => tII st fun x y r => k (i.1 + 1) L (.int (x &&& y) :: r) h
  | .ior => tII st fun x y r => k (i.1 + 1) L (.int (x ||| y) :: r) h
  | .ixor => tII st fun x y r => k (i.1 + 1) L (.int (x ^^^ y) :: r) h
  | .ishl => tII st fun x y r => k (i.1 + 1) L (.int (x <<< (y &&& 31)) :: r) h
  | .ishr => tII st fun x y r => k (i.1 + 1) L (.int (x >>> (y &&& 31)) :: r) h
  | .iushr => tII st fun x y r => k (i.1 + 1) L (.int (x.toUInt32 >>> (y.toUInt32 &&& Int32.toUInt32 31)).toInt32 :: r) h
  | .idiv => tII st fun x y r => if y = 0 then none else k (i.1 + 1) L (.int (x / y) :: r) h
  | .irem => tII st fun x y r => if y = 0 then none else k (i.1 + 1) L (.int (x - x / y * y) :: r) h
  | .ineg => tI st fun x r => k (i.1 + 1) L (.int (-x) :: r) h
  | .ladd => tJJ st fun x y r => k (i.1 + 1) L (.long (x + y) :: r) h
  | .lsub => tJJ st fun x y r => k (i.1 + 1) L (.long (x - y) :: r) h
  | .lmul => tJJ st fun x y r => k (i.1 + 1) L (.long (x * y) :: r) h
  | .land => tJJ st fun x y r => k (i.1 + 1) L (.long (x &&& y) :: r) h
  | .lor => tJJ st fun x y r => k (i.1 + 1) L (.long (x ||| y) :: r) h
  | .ldiv => tJJ st fun x y r => if y = 0 then none else k (i.1 + 1) L (.long (x / y) :: r) h
  | .lrem => tJJ st fun x y r => if y = 0 then none else k (i.1 + 1) L (.long (x - x / y * y) :: r) h
  | .lshl => tJI st fun x y r => k (i.1 + 1) L (.long (x <<< (y.toInt64 &&& 63)) :: r) h
  | .lcmp => tJJ st fun x y r => k (i.1 + 1) L (.int (lg_cmp x y) :: r) h
  | .i2l => tI st fun x r => k (i.1 + 1) L (.long x.toInt64 :: r) h
  | .l2i => tJ st fun x r => k (i.1 + 1) L (.int x.toInt32 :: r) h
  | .i2b => tI st fun x r => k (i.1 + 1) L (.int x.toInt8.toInt32 :: r) h
  | .i2s => tI st fun x r => k (i.1 + 1) L (.int x.toInt16.toInt32 :: r) h
  | .i2c => tI st fun x r => k (i.1 + 1) L (.int (x.toUInt32 % 65536).toInt32 :: r) h
  | .dup => match st with
    | v :: r => bif aok1 v then k (i.1 + 1) L (v :: v :: r) h else none
    | _ => none
  | .dup2 => match st with
    | v :: w :: r => bif aok1 v && aok1 w then k (i.1 + 1) L (v :: w :: v :: w :: r) h else none
    | _ => none
  | .dup_x1 => match st with
    | v :: w :: r => bif aok1 v && aok1 w then k (i.1 + 1) L (v :: w :: v :: r) h else none
    | _ => none
  | .pop => match st with
    | v :: r => bif aok1 v then k (i.1 + 1) L r h else none
    | _ => none
  | .pop2 => match st with
    | .long _ :: r => k (i.1 + 1) L r h
    | _ => none
  | .goto _ => k i.2.2.2.1 L st h
  | .ifCond c _ => tI st fun x r => match c with
    | .eq => if x = 0 then k i.2.2.2.1 L r h else k (i.1 + 3) L r h
    | .ne => if x = 0 then k (i.1 + 3) L r h else k i.2.2.2.1 L r h
    | .lt => if x < 0 then k i.2.2.2.1 L r h else k (i.1 + 3) L r h
    | .ge => if 0 ≤ x then k i.2.2.2.1 L r h else k (i.1 + 3) L r h
    | .gt => if 0 < x then k i.2.2.2.1 L r h else k (i.1 + 3) L r h
    | .le => if x ≤ 0 then k i.2.2.2.1 L r h else k (i.1 + 3) L r h
  | .if_icmp c _ => tII st fun x y r => match c with
    | .eq => if x = y then k i.2.2.2.1 L r h else k (i.1 + 3) L r h
    | .ne => if x = y then k (i.1 + 3) L r h else k i.2.2.2.1 L r h
    | .lt => if x < y then k i.2.2.2.1 L r h else k (i.1 + 3) L r h
    | .ge => if y ≤ x then k i.2.2.2.1 L r h else k (i.1 + 3) L r h
    | .gt => if y < x then k i.2.2.2.1 L r h else k (i.1 + 3) L r h
    | .le => if x ≤ y then k i.2.2.2.1 L r h else k (i.1 + 3) L r h
  | .ifnull _ => match st with
    | .ref _ :: r => k (i.1 + 3) L r h
    | .null :: r => k i.2.2.2.1 L r h
    | _ => none
  | .ifnonnull _ => match st with
    | .ref _ :: r => k i.2.2.2.1 L r h
    | .null :: r => k (i.1 + 3) L r h
    | _ => none
  | .tableswitch d lo _ offs => tI st fun x r => asw x (fun o => k ((i.1 : Int) + o).toNat L r h) d lo offs.toList
  | .lookupswitch d ps => tI st fun x r => alw x (fun o => k ((i.1 : Int) + o).toNat L r h) d ps.toList
  | .getfield _ => match st with
    | .ref o :: r => aobj h o i.2.2.2.1 fun fs => match fs[i.2.2.2.2]? with
      | some v => k (i.1 + 3) L (v :: r) h
      | none => none
    | _ => none
  | .putfield _ => match st with
    | v :: .ref o :: r => aobj h o i.2.2.2.1 fun fs => bif (!((zT i.2.2.2.1 i.2.2.2.2).2.2.2) || (Nat.beq kind 2 && Nat.beq own i.2.2.2.1)) && aok (zY i.2.2.2.1 i.2.2.2.2) v && Nat.blt i.2.2.2.2 fs.length then k (i.1 + 3) L r (h.1.set o (.inr (i.2.2.2.1, fs.set i.2.2.2.2 v)), h.2) else none
    | _ => none
  | .getstatic _ => k (i.1 + 3) L (.retAddr 0 :: st) h
  | .arraylength => match st with
    | .ref o :: r => match h.1[o]? with
      | some (.inl (0, n, _)) => k (i.1 + 1) L (.int (Int32.ofNat n) :: r) h
      | some (.inl (1, n, _)) => k (i.1 + 1) L (.int (Int32.ofNat n) :: r) h
      | _ => none
    | .retAddr e :: r => match X e with
      | some (n, _) => k (i.1 + 1) L (.int (Int32.ofNat n) :: r) h
      | none => none
    | _ => none
  | .iaload => match st with
    | .int j :: .ref o :: r => aarI h o fun t n g => bif Nat.beq t 0 then (if j < 0 ∨ n ≤ j.toNatClampNeg then none else k (i.1 + 1) L (.int (g j.toNatClampNeg) :: r) h) else none
    | .int j :: .retAddr e :: r => match X e with
      | some (n, g) => if j < 0 ∨ n ≤ j.toNatClampNeg then none else k (i.1 + 1) L (.int (g j.toNatClampNeg) :: r) h
      | none => none
    | _ => none
  | .baload => match st with
    | .int j :: .ref o :: r => aarI h o fun t n g => bif Nat.beq t 2 || Nat.beq t 3 then (if j < 0 ∨ n ≤ j.toNatClampNeg then none else k (i.1 + 1) L (.int (g j.toNatClampNeg) :: r) h) else none
    | _ => none
  | .laload => match st with
    | .int j :: .ref o :: r => aarJ h o fun n g => if j < 0 ∨ n ≤ j.toNatClampNeg then none else k (i.1 + 1) L (.long (g j.toNatClampNeg) :: r) h
    | _ => none
  | .aaload => match st with
    | .int j :: .ref o :: r => aarR h o fun t n g => bif Nat.beq t 4 || Nat.beq t 5 then (if j < 0 ∨ n ≤ j.toNatClampNeg then none else k (i.1 + 1) L (arf (g j.toNatClampNeg) :: r) h) else none
    | _ => none
  | .iastore => match st with
    | .int x :: .int j :: .ref o :: r => aarI h o fun t n g => bif Nat.beq t 0 then (if j < 0 ∨ n ≤ j.toNatClampNeg then none else k (i.1 + 1) L r (h.1.set o (.inl (0, n, .inl (upd g j.toNatClampNeg x))), h.2)) else none
    | _ => none
  | .bastore => match st with
    | .int x :: .int j :: .ref o :: r => aarI h o fun t n g => match t with
      | 2 => if j < 0 ∨ n ≤ j.toNatClampNeg then none else k (i.1 + 1) L r (h.1.set o (.inl (2, n, .inl (upd g j.toNatClampNeg (x &&& 1)))), h.2)
      | 3 => if j < 0 ∨ n ≤ j.toNatClampNeg then none else k (i.1 + 1) L r (h.1.set o (.inl (3, n, .inl (upd g j.toNatClampNeg x.toInt8.toInt32))), h.2)
      | _ => none
    | _ => none
  | .lastore => match st with
    | .long x :: .int j :: .ref o :: r => aarJ h o fun n g => if j < 0 ∨ n ≤ j.toNatClampNeg then none else k (i.1 + 1) L r (h.1.set o (.inl (1, n, .inr (.inl (vp_updL g j.toNatClampNeg x)))), h.2)
    | _ => none
  | .aastore => match st with
    | .ref q :: .int j :: .ref o :: r => aarR h o fun t n g => bif Nat.beq t 4 then aobj h q 8 fun _ => (if j < 0 ∨ n ≤ j.toNatClampNeg then none else k (i.1 + 1) L r (h.1.set o (.inl (4, n, .inr (.inr (.inr (.inr (va_up g j.toNatClampNeg (some q))))))), h.2)) else bif Nat.beq t 5 then aarI h q fun t' _ _ => bif Nat.beq t' 0 then (if j < 0 ∨ n ≤ j.toNatClampNeg then none else k (i.1 + 1) L r (h.1.set o (.inl (5, n, .inr (.inr (.inr (.inr (va_up g j.toNatClampNeg (some q))))))), h.2)) else none else none
    | _ => none
  | .new _ => k (i.1 + 3) L (.ref h.1.length :: st) (h.1 ++ [.inr (i.2.2.2.1, (List.range (zN i.2.2.2.1)).map (fun c => defaultValue (zY i.2.2.2.1 c)))], h.2 + zN i.2.2.2.1)
  | .newarray _ => tI st fun x r => if x < 0 ∨ 100000 < x then none else k (i.1 + 2) L (.ref h.1.length :: r) (h.1 ++ [.inl (i.2.2.2.1, x.toNatClampNeg, azero i.2.2.2.1)], h.2 + x.toNatClampNeg)
  | .anewarray _ => tI st fun x r => if x < 0 ∨ 100000 < x then none else k (i.1 + 3) L (.ref h.1.length :: r) (h.1 ++ [.inl (i.2.2.2.1, x.toNatClampNeg, .inr (.inr (.inr (.inr (fun _ => none)))))], h.2 + x.toNatClampNeg)
  | _ => none
/-- the first n of the stack as a call's arguments -/
def acut (n : Nat) (st : List Value) (f : List Value → List Value → Option aR) : Option aR := bif Nat.ble n st.length then f (st.take n).reverse (st.drop n) else none
/-- what a call gives back, and what goes on -/
def aback (d : Nat) (r : List Value) (callee : Nat → Option aR) (k : List Value → aH → Option aR) : Option aR := match d with
  | 0 => none
  | d' + 1 => bif Nat.ble (aws r) 8 then (match callee d' with
    | some q => k (q.1.toList ++ r) q.2
    | none => none) else none
def aent (Y : aM) (as : List Value) (f : Unit → Option aR) : Option aR := bif Nat.ble (aws as) Y.2.2.2.1 then f () else none
def aretI (ret : Option FieldType) (x : Int32) (h : aH) : Option aR := match ret with
  | some .int => some (some (.int x), h)
  | some .boolean => if x = 0 ∨ x = 1 then some (some (.int x), h) else none
  | _ => none
/-- Math's methods: their own rows -/
def amath (a d : Nat) (st : List Value) (k : List Value → Option aR) : Option aR := match d, a with
  | 0, _ => none
  | _ + 1, 1010 => tII st fun x y r => bif Nat.ble (aws r) 8 then k (.int (if x < y then y else x) :: r) else none
  | _ + 1, 1011 => tII st fun x y r => bif Nat.ble (aws r) 8 then k (.int (if y < x then y else x) :: r) else none
  | _ + 1, 1012 => tI st fun x r => bif Nat.ble (aws r) 8 then k (.int (if 0 ≤ x then x else 0 - x) :: r) else none
  | _ + 1, 1013 => tJJ st fun x y r => bif Nat.ble (aws r) 8 then k (.long (if y < x then x else y) :: r) else none
  | _ + 1, 1014 => tJJ st fun x y r => bif Nat.ble (aws r) 8 then k (.long (if y < x then y else x) :: r) else none
  | _, _ => none
/-- System.arraycopy, of bytes and of longs -/
def afit (f : Nat → Int32) (sp n : Nat) : Bool := (List.range n).all (fun i => fits .byte (.int (f (sp + i))))
def acopy (d : Nat) (st : List Value) (h : aH) (k : List Value → aH → Option aR) : Option aR := match d, st with
  | _ + 1, .int n :: .int dp :: .ref a :: .int sp :: .ref a0 :: r => bif Nat.ble (aws r) 8 then (match h.1[a0]?, h.1[a]? with
    | some (.inl (3, n0, .inl f)), some (.inl (3, n1, .inl g)) => if sp < 0 ∨ dp < 0 ∨ n < 0 ∨ n0 < sp.toNatClampNeg + n.toNatClampNeg ∨ n1 < dp.toNatClampNeg + n.toNatClampNeg then none else bif afit f sp.toNatClampNeg n.toNatClampNeg then k r (h.1.set a (.inl (3, n1, .inl (va_cpy f g sp.toNatClampNeg dp.toNatClampNeg n.toNatClampNeg))), h.2) else none
    | some (.inl (1, n0, .inr (.inl f))), some (.inl (1, n1, .inr (.inl g))) => if sp < 0 ∨ dp < 0 ∨ n < 0 ∨ n0 < sp.toNatClampNeg + n.toNatClampNeg ∨ n1 < dp.toNatClampNeg + n.toNatClampNeg then none else k r (h.1.set a (.inl (1, n1, .inr (.inl (va_cpy f g sp.toNatClampNeg dp.toNatClampNeg n.toNatClampNeg)))), h.2)
    | some (.inl (0, n0, .inl f)), some (.inl (0, n1, .inl g)) => if sp < 0 ∨ dp < 0 ∨ n < 0 ∨ n0 < sp.toNatClampNeg + n.toNatClampNeg ∨ n1 < dp.toNatClampNeg + n.toNatClampNeg then none else k r (h.1.set a (.inl (0, n1, .inl (va_cpy f g sp.toNatClampNeg dp.toNatClampNeg n.toNatClampNeg))), h.2)
    | _, _ => none) else none
  | _, _ => none
/-- indexOf in the names' signs -/
def zNS : List Int32 := [121, 107, 115, 102, 103, 99, 116, 108, 101, 112, 109, 106, 98]
def zIxF (c : Int32) : Nat → List Int32 → Int32
  | _, [] => -1
  | n, x :: r => if x = c then Int32.ofNat n else zIxF c (n + 1) r
def zIx (c : Int32) : Int32 := zIxF c 0 zNS
def aixof (d : Nat) (st : List Value) (k : List Value → Option aR) : Option aR := match d, st with
  | _ + 5, .int c :: .retAddr 2 :: r => bif Nat.ble (aws r) 8 then k (.int (zIx c) :: r) else none
  | _, _ => none
def arun (X : aX) : Nat → Nat → aM → Nat → aL → List Value → aH → Option aR
  | 0, _, _, _, _, _, _ => none
  | n + 1, d, M, pc, L, st, h => match aF pc M.2.2.2.2.2.2.2 with
    | none => none
    | some i => match i.2.1 with
      | .ireturn => (match st with
        | [.int x] => aretI M.2.2.2.2.1 x h
        | _ => none)
      | .lreturn => (match st, M.2.2.2.2.1 with
        | [.long x], some .long => some (some (.long x), h)
        | _, _ => none)
      | .areturn => (match st, M.2.2.2.2.1 with
        | [.ref x], some (.object _) => some (some (.ref x), h)
        | _, _ => none)
      | .return_ => (match st, M.2.2.2.2.1 with
        | [], none => some (none, h)
        | _, _ => none)
      | .invokestatic _ => bif Nat.beq i.2.2.2.1 1002 then acopy d st h (fun st' h' => arun X n d M (i.1 + 3) L st' h') else bif Nat.ble 1010 i.2.2.2.1 then amath i.2.2.2.1 d st (fun st' => arun X n d M (i.1 + 3) L st' h) else (match zmt[i.2.2.2.1]? with
        | some Y => bif Nat.beq Y.2.2.2.2.2.2.1 1 then acut Y.2.2.2.2.2.1 st fun as r => aent Y as fun _ => aback d r (fun d' => arun X n d' Y 0 (aE Y.2.2.2.1 as) [] h) (fun st' h' => arun X n d M (i.1 + 3) L st' h') else none
        | none => none)
      | .invokevirtual _ => bif Nat.beq i.2.2.2.1 1001 then aixof d st (fun st' => arun X n d M (i.1 + 3) L st' h) else (match zmt[i.2.2.2.1]? with
        | some Y => bif Nat.beq Y.2.2.2.2.2.2.1 0 then acut Y.2.2.2.2.2.1 st fun as r => (match r with
          | .ref o :: r' => aobj h o Y.1 fun _ => aent Y (.ref o :: as) fun _ => aback d r' (fun d' => arun X n d' Y 0 (aE Y.2.2.2.1 (.ref o :: as)) [] h) (fun st' h' => arun X n d M (i.1 + 3) L st' h')
          | _ => none) else none
        | none => none)
      | .invokespecial _ => bif Nat.beq i.2.2.2.1 1000 then (match st with
          | .ref _ :: r' => aback d r' (fun _ => some (none, h)) (fun st' h' => arun X n d M (i.1 + 3) L st' h')
          | _ => none) else (match zmt[i.2.2.2.1]? with
        | some Y => bif Nat.beq Y.2.2.2.2.2.2.1 2 then acut Y.2.2.2.2.2.1 st fun as r => (match r with
          | .ref o :: r' => aent Y (.ref o :: as) fun _ => aback d r' (fun d' => arun X n d' Y 0 (aE Y.2.2.2.1 (.ref o :: as)) [] h) (fun st' h' => arun X n d M (i.1 + 3) L st' h')
          | _ => none) else none
        | none => none)
      | _ => aX1 X M.1 M.2.2.2.2.2.2.1 (arun X n d M) i L st h

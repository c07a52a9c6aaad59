-- ===== the checker: an instruction, a run =====
def cix (K : cK) (p : Nat) (o : Int) (n : Nat) : Bool := cle 0 (clb K p + o) && cle (cub K p + o + 1) n
def cWn (W : List (Nat × Nat)) (r f : Nat) : Bool := W.any (fun t => Nat.beq t.1 r && Nat.beq t.2 f)
def cpI (st : List cW) (f : Nat → Int → List cW → Option (List cEx)) : Option (List cEx) := match st with
  | (1, p, o) :: r => f p o r
  | _ => none
def cpII (st : List cW) (f : Nat → Int → Nat → Int → List cW → Option (List cEx)) : Option (List cEx) := match st with
  | (1, q, s) :: (1, p, o) :: r => f p o q s r
  | _ => none
def cpJ (st : List cW) (f : Nat → Int → List cW → Option (List cEx)) : Option (List cEx) := match st with
  | (2, p, o) :: r => f p o r
  | _ => none
def cpJJ (st : List cW) (f : Nat → Int → Nat → Int → List cW → Option (List cEx)) : Option (List cEx) := match st with
  | (2, q, s) :: (2, p, o) :: r => f p o q s r
  | _ => none
def cit (b : Bool) (x : Option (List cEx)) : Option (List cEx) := bif b then x else none
def cRg (K : cK) (c : Nat) (f : Nat → cRt → Option (List cEx)) : Option (List cEx) := match creg K c with
  | some r => (match cRT[r]? with
    | some t => f r t
    | none => none)
  | none => none
/-- a field of numbers or of cells that are there -/
def cld (K : cK) (c b : Nat) (ty : Nat × Int × Int) (k : cK → cW → Option (List cEx)) : Option (List cEx) := match K.2.2.2.2.1.find? (fun f => Nat.beq f.1 c && Nat.beq f.2.1 b) with
  | some f => k K f.2.2
  | none => match ty.1 with
    | 0 => k (K.1 ++ [(ty.2.1, ty.2.2)], K.2.1, K.2.2.1, K.2.2.2.1, (c, b, 1, K.1.length, 0) :: K.2.2.2.2.1, K.2.2.2.2.2) (1, K.1.length, 0)
    | 1 => bif Nat.blt ty.2.1.toNat 146 then k K (3, ty.2.1.toNat, 0) else k (K.1, K.2.1, K.2.2.1, K.2.2.2.1 ++ [ty.2.1.toNat], (c, b, 3, 1000 + K.2.2.2.1.length, 0) :: K.2.2.2.2.1, K.2.2.2.2.2) (3, 1000 + K.2.2.2.1.length, 0)
    | _ => none
def csF (K : cK) (r b : Nat) (c : Nat) (w : cW) : cK := (K.1, K.2.1, K.2.2.1, K.2.2.2.1, (c, b, w) :: K.2.2.2.2.1.filter (fun t => !(Nat.beq t.2.1 b && (match creg K t.1 with
    | some x => Nat.beq x r
    | none => true))), K.2.2.2.2.2)
def csA (K : cK) (r : Nat) (l : cAf) : cK := (K.1, K.2.1, K.2.2.1, K.2.2.2.1, K.2.2.2.2.1, K.2.2.2.2.2.1, l ++ K.2.2.2.2.2.2.filter (fun t => !(match creg K t.1 with
    | some x => Nat.beq x r
    | none => true)))
def cisZ (t : FieldType) : Nat := match t with
  | .int => 1
  | .boolean => 2
  | .object _ => 3
  | .array _ => 3
  | _ => 0
/-- a number read out of an array of ints, bytes or booleans -/
def cal (K : cK) (c p : Nat) (o : Int) (r : Nat) (t : cRt) (k : cK → Nat → Int → Option (List cEx)) : Option (List cEx) := match K.2.2.2.2.2.2.find? (fun a => Nat.beq a.1 c && Nat.beq a.2.1 p && ceI a.2.2.1 o) with
  | some a => k K a.2.2.2.1 a.2.2.2.2
  | none => k (K.1 ++ [(t.2.2.2.1, bif Nat.beq r 70 && K.2.2.2.2.2.2.any (fun a => Nat.beq a.1 69 && Nat.beq a.2.1 p && ceI a.2.2.1 o && cle 0 (clb K a.2.2.2.1 + a.2.2.2.2) && cle (cub K a.2.2.2.1 + a.2.2.2.2) 4) then 60 else t.2.2.2.2.1)], K.2.1, K.2.2.1, K.2.2.2.1, K.2.2.2.2.1, K.2.2.2.2.2.1, (c, p, o, K.1.length, 0) :: K.2.2.2.2.2.2) K.1.length 0
def ctsw (p : Nat) (o : Int) (k : Int → cK → Option (List cEx)) (d : Int) : Int → List Int → cK → Option (List cEx)
  | _, [], K => k d K
  | lo, a :: r, K => cap (cbr (cneq K p o 0 lo) (k a)) (cbr (cnne K p o 0 lo) (fun K' => ctsw p o k d (lo + 1) r K'))
def clsw (p : Nat) (o : Int) (k : Int → cK → Option (List cEx)) (d : Int) : List (Int × Int) → cK → Option (List cEx)
  | [], K => k d K
  | a :: r, K => cap (cbr (cneq K p o 0 a.1) (k a.2)) (cbr (cnne K p o 0 a.1) (fun K' => clsw p o k d r K'))
def c31 (a : Nat) : Int := bif Nat.blt a 2147483648 then (a : Int) else (a : Int) - 4294967296
def c63 (a : Nat) : Int := bif Nat.blt a 9223372036854775808 then (a : Int) else (a : Int) - 18446744073709551616
def cld1 (L : List cW) (z : Nat) (g : Nat) (k : cW → Option (List cEx)) : Option (List cEx) := bif Nat.beq (cG L z).1 g then k (cG L z) else none
def cldA (L : List cW) (z : Nat) (k : cW → Option (List cEx)) : Option (List cEx) := match (cG L z).1 with
  | 3 => k (cG L z)
  | 4 => k (cG L z)
  | 5 => k (cG L z)
  | 6 => k (cG L z)
  | _ => none
def cstA (L st : List cW) (z : Nat) (k : List cW → List cW → Option (List cEx)) : Option (List cEx) := match st with
  | (3, c, _) :: r => cit (Nat.blt z L.length) (k (cS1 L z (3, c, 0)) r)
  | (4, _, _) :: r => cit (Nat.blt z L.length) (k (cS1 L z (4, 0, 0)) r)
  | (6, c, _) :: r => cit (Nat.blt z L.length) (k (cS1 L z (6, c, 0)) r)
  | _ => none
def cX1 (W : List (Nat × Nat)) (k : Nat → List cW → List cW → cK → Option (List cEx)) (i : aI) (L st : List cW) (K : cK) : Option (List cEx) := match i.2.1 with
  | .aconst_null => k (i.1 + 1) L ((4, 0, 0) :: st) K
  | .iconst z => cit (cle (-128) z && cle z 127) (k (i.1 + 1) L ((1, 0, z) :: st) K)
  | .bipush z => cit (cle (-128) z && cle z 127) (k (i.1 + 2) L ((1, 0, z) :: st) K)
  | .sipush z => cit (cle (-32768) z && cle z 32767) (k (i.1 + 3) L ((1, 0, z) :: st) K)
  | .lconst z => k (i.1 + 1) L ((2, 0, ((z : Nat) : Int)) :: st) K
  | .ldc _ => bif Nat.beq i.2.2.2.1 4294967296 then k (i.1 + 2) L ((7, 0, 0) :: st) K else cit (Nat.blt i.2.2.2.1 4294967296) (k (i.1 + 2) L ((1, 0, c31 i.2.2.2.1) :: st) K)
  | .ldc_w _ => cit (Nat.blt i.2.2.2.1 4294967296) (k (i.1 + 3) L ((1, 0, c31 i.2.2.2.1) :: st) K)
  | .ldc2_w _ => cit (Nat.blt i.2.2.2.1 18446744073709551616) (k (i.1 + 3) L ((2, 0, c63 i.2.2.2.1) :: st) K)
  | .iload_n z => cld1 L z 1 fun w => k (i.1 + 1) L (w :: st) K
  | .iload z => cld1 L z 1 fun w => k (i.1 + 2) L (w :: st) K
  | .lload_n z => cld1 L z 2 fun w => k (i.1 + 1) L (w :: st) K
  | .lload z => cld1 L z 2 fun w => k (i.1 + 2) L (w :: st) K
  | .aload_n z => cldA L z fun w => k (i.1 + 1) L (w :: st) K
  | .aload z => cldA L z fun w => k (i.1 + 2) L (w :: st) K
  | .istore_n z => cpI st fun p o r => cit (Nat.blt z L.length) (k (i.1 + 1) (cS1 L z (1, p, o)) r K)
  | .istore z => cpI st fun p o r => cit (Nat.blt z L.length) (k (i.1 + 2) (cS1 L z (1, p, o)) r K)
  | .lstore_n z => cpJ st fun p o r => cit (Nat.blt (z + 1) L.length) (k (i.1 + 1) (cS2 L z (2, p, o)) r K)
  | .lstore z => cpJ st fun p o r => cit (Nat.blt (z + 1) L.length) (k (i.1 + 2) (cS2 L z (2, p, o)) r K)
  | .astore_n z => cstA L st z fun L' r => k (i.1 + 1) L' r K
  | .astore z => cstA L st z fun L' r => k (i.1 + 2) L' r K
  | .iinc z c => cld1 L z 1 fun w => cit (cle (-32768) c && cle c 32767) (cadd' cM32 K w.2.1 w.2.2 0 c fun K' p o => k (i.1 + 3) (cS1 L z (1, p, o)) st K')
  | .iadd => cpII st fun p o q s r => cadd' cM32 K p o q s fun K' z x => k (i.1 + 1) L ((1, z, x) :: r) K'
  | .isub => cpII st fun p o q s r => csub cM32 K p o q s fun K' z x => k (i.1 + 1) L ((1, z, x) :: r) K'
  | .imul => cpII st fun p o q s r => cfr K (let m := cmulr (clo K p o) (chi K p o) (clo K q s) (chi K q s); cfit cM32 m.1 m.2) fun K' z => k (i.1 + 1) L ((1, z, 0) :: r) K'
  | .iand => cpII st fun p o q s r => bif cle 0 (clo K p o) && cle 0 (clo K q s) then
      k (i.1 + 1) L ((1, K.1.length, 0) :: r) (K.1 ++ [(0, cmn (chi K p o) (chi K q s))], (bif Nat.beq p 0 then [] else [(K.1.length, p, o)]) ++ ((bif Nat.beq q 0 then [] else [(K.1.length, q, s)]) ++ K.2.1), K.2.2)
    else cfr K (candr (clo K p o) (chi K p o) (clo K q s) (chi K q s)) fun K' z => k (i.1 + 1) L ((1, z, 0) :: r) K'
  | .ior => cpII st fun _ _ _ _ r => cfr K (-cM32, cM32 - 1) fun K' z => k (i.1 + 1) L ((1, z, 0) :: r) K'
  | .ixor => cpII st fun _ _ _ _ r => cfr K (-cM32, cM32 - 1) fun K' z => k (i.1 + 1) L ((1, z, 0) :: r) K'
  | .ishl => cpII st fun _ _ _ _ r => cfr K (-cM32, cM32 - 1) fun K' z => k (i.1 + 1) L ((1, z, 0) :: r) K'
  | .ishr => cpII st fun _ _ _ _ r => cfr K (-cM32, cM32 - 1) fun K' z => k (i.1 + 1) L ((1, z, 0) :: r) K'
  | .iushr => cpII st fun _ _ q s r => cfr K (bif cle 1 (clo K q s) && cle (chi K q s) 31 then (0, cM32 - 1) else (-cM32, cM32 - 1)) fun K' z => k (i.1 + 1) L ((1, z, 0) :: r) K'
  | .idiv => cpII st fun p o q s r => cit (cnz K q s) (cfr K (cdivr cM32 (clo K p o) (chi K p o) (clo K q s) (chi K q s)) fun K' z => k (i.1 + 1) L ((1, z, 0) :: r) K')
  | .irem => cpII st fun p o q s r => cit (cnz K q s) (cfr K (cremr cM32 (clo K p o) (chi K p o) (clo K q s) (chi K q s)) fun K' z => k (i.1 + 1) L ((1, z, 0) :: r) K')
  | .ineg => cpI st fun p o r => cfr K (cfit cM32 (-(chi K p o)) (-(clo K p o))) fun K' z => k (i.1 + 1) L ((1, z, 0) :: r) K'
  | .ladd => cpJJ st fun p o q s r => cadd' cM64 K p o q s fun K' z x => k (i.1 + 1) L ((2, z, x) :: r) K'
  | .lsub => cpJJ st fun p o q s r => csub cM64 K p o q s fun K' z x => k (i.1 + 1) L ((2, z, x) :: r) K'
  | .lmul => cpJJ st fun p o q s r => cfr K (let m := cmulr (clo K p o) (chi K p o) (clo K q s) (chi K q s); cfit cM64 m.1 m.2) fun K' z => k (i.1 + 1) L ((2, z, 0) :: r) K'
  | .ldiv => cpJJ st fun p o q s r => cit (cnz K q s) (cfr K (cdivr cM64 (clo K p o) (chi K p o) (clo K q s) (chi K q s)) fun K' z => k (i.1 + 1) L ((2, z, 0) :: r) K')
  | .lrem => cpJJ st fun p o q s r => cit (cnz K q s) (cfr K (cremr cM64 (clo K p o) (chi K p o) (clo K q s) (chi K q s)) fun K' z => k (i.1 + 1) L ((2, z, 0) :: r) K')
  | .i2l => cpI st fun p o r => k (i.1 + 1) L ((2, p, o) :: r) K
  | .l2i => cpJ st fun p o r => bif cin cM32 (clo K p o) (chi K p o) then k (i.1 + 1) L ((1, p, o) :: r) K else cfr K (-cM32, cM32 - 1) fun K' z => k (i.1 + 1) L ((1, z, 0) :: r) K'
  | .i2b => cpI st fun p o r => bif cin 128 (clo K p o) (chi K p o) then k (i.1 + 1) L ((1, p, o) :: r) K else cfr K (-128, 127) fun K' z => k (i.1 + 1) L ((1, z, 0) :: r) K'
  | .i2s => cpI st fun p o r => bif cin 32768 (clo K p o) (chi K p o) then k (i.1 + 1) L ((1, p, o) :: r) K else cfr K (-32768, 32767) fun K' z => k (i.1 + 1) L ((1, z, 0) :: r) K'
  | .i2c => cpI st fun p o r => bif cle 0 (clo K p o) && cle (chi K p o) 65535 then k (i.1 + 1) L ((1, p, o) :: r) K else cfr K (0, 65535) fun K' z => k (i.1 + 1) L ((1, z, 0) :: r) K'
  | .dup => (match st with
    | w :: r => bif Nat.beq w.1 2 then none else k (i.1 + 1) L (w :: w :: r) K
    | [] => none)
  | .dup2 => (match st with
    | v :: w :: r => bif Nat.beq v.1 2 || Nat.beq w.1 2 then none else k (i.1 + 1) L (v :: w :: v :: w :: r) K
    | _ => none)
  | .pop => (match st with
    | w :: r => bif Nat.beq w.1 2 then none else k (i.1 + 1) L r K
    | [] => none)
  | .goto _ => k i.2.2.2.1 L st K
  | .ifCond c _ => cpI st fun p o r => ccmp c K p o 0 0 (k i.2.2.2.1 L r) (k (i.1 + 3) L r)
  | .if_icmp c _ => cpII st fun p o q s r => ccmp c K p o q s (k i.2.2.2.1 L r) (k (i.1 + 3) L r)
  | .ifnull _ => (match st with
    | (3, _, _) :: r => k (i.1 + 3) L r K
    | (4, _, _) :: r => k i.2.2.2.1 L r K
    | _ => none)
  | .ifnonnull _ => (match st with
    | (3, _, _) :: r => k i.2.2.2.1 L r K
    | (4, _, _) :: r => k (i.1 + 3) L r K
    | _ => none)
  | .tableswitch d lo _ offs => cit (cle (-2147483648) lo && cle (lo + (offs.toList.length : Int)) 2147483647) <| cpI st fun p o r => ctsw p o (fun a K' => k ((i.1 : Int) + a).toNat L r K') d lo offs.toList K
  | .lookupswitch d ps => cit (ps.toList.all (fun a => cle (-2147483648) a.1 && cle a.1 2147483647)) <| cpI st fun p o r => clsw p o (fun a K' => k ((i.1 : Int) + a).toNat L r K') d ps.toList K
  | .getfield _ => (match st with
    | (3, c, _) :: r => cRg K c fun _ t => cit (Nat.beq t.1 0 && Nat.beq t.2.1 i.2.2.2.1) (match t.2.2.2.2.2[i.2.2.2.2]? with
      | some ty => (match ty.1 with
        | 4 => cit (Nat.blt ty.2.1.toNat 146 && Nat.blt ty.2.2.toNat 146) (cap (k (i.1 + 3) L ((3, ty.2.1.toNat, 0) :: r) K) (k (i.1 + 3) L ((3, ty.2.2.toNat, 0) :: r) K))
        | _ => cld K c i.2.2.2.2 ty fun K' w => k (i.1 + 3) L (w :: r) K')
      | none => none)
    | _ => none)
  | .putfield _ => (match st with
    | v :: (3, c, _) :: r => cRg K c fun g t => cit (Nat.beq t.1 0 && Nat.beq t.2.1 i.2.2.2.1 && !((zT i.2.2.2.1 i.2.2.2.2).2.2.2) && cWn W g i.2.2.2.2 && !(cJs g i.2.2.2.2)) (match t.2.2.2.2.2[i.2.2.2.2]? with
      | some ty => (match ty.1 with
        | 0 => cit (Nat.beq v.1 1 && cle ty.2.1 (clo K v.2.1 v.2.2) && cle (chi K v.2.1 v.2.2) ty.2.2 && (match cisZ (zY i.2.2.2.1 i.2.2.2.2) with
          | 1 => true
          | 2 => cle 0 (clo K v.2.1 v.2.2) && cle (chi K v.2.1 v.2.2) 1
          | _ => false)) (k (i.1 + 3) L r (csF K g i.2.2.2.2 c v))
        | 4 => cit (Nat.beq v.1 3 && (Nat.beq v.2.1 ty.2.1.toNat || Nat.beq v.2.1 ty.2.2.toNat) && Nat.blt v.2.1 146 && Nat.beq (cisZ (zY i.2.2.2.1 i.2.2.2.2)) 3) (k (i.1 + 3) L r (K.1, K.2.1, K.2.2.1, K.2.2.2.1, K.2.2.2.2.1.filter (fun t => !(Nat.beq t.2.1 i.2.2.2.2)), K.2.2.2.2.2))
        | _ => none)
      | none => none)
    | _ => none)
  | .getstatic _ => k (i.1 + 3) L ((5, 0, 0) :: st) K
  | .arraylength => (match st with
    | (3, c, _) :: r => cRg K c fun _ t => cit (Nat.beq t.1 2 || (Nat.beq t.1 1 && Nat.beq t.2.1 0)) (cit (Nat.blt t.2.2.1 2147483648) (k (i.1 + 1) L ((1, 0, (t.2.2.1 : Int)) :: r) K))
    | _ => none)
  | .iaload => (match st with
    | (1, p, o) :: (3, c, _) :: r => cRg K c fun g t => cit (Nat.beq t.1 1 && Nat.beq t.2.1 0 && cix K p o t.2.2.1) (cal K c p o g t fun K' q s => k (i.1 + 1) L ((1, q, s) :: r) K')
    | (1, p, o) :: (5, 0, _) :: r => cit (cix K p o 8) (cfr K (-1, 4) fun K' z => k (i.1 + 1) L ((1, z, 0) :: r) K')
    | _ => none)
  | .baload => (match st with
    | (1, p, o) :: (3, c, _) :: r => cRg K c fun g t => cit (Nat.beq t.1 1 && (Nat.beq t.2.1 2 || Nat.beq t.2.1 3) && cix K p o t.2.2.1) (cal K c p o g t fun K' q s => k (i.1 + 1) L ((1, q, s) :: r) K')
    | _ => none)
  | .laload => (match st with
    | (1, p, o) :: (3, c, _) :: r => cRg K c fun _ t => cit (Nat.beq t.1 2 && cix K p o t.2.2.1) (cfr K (t.2.2.2.1, t.2.2.2.2.1) fun K' z => k (i.1 + 1) L ((2, z, 0) :: r) K')
    | _ => none)
  | .aaload => (match st with
    | (1, p, o) :: (3, c, _) :: r => cRg K c fun _ t => cit (Nat.beq t.1 3 && (Nat.beq t.2.1 4 || Nat.beq t.2.1 5) && cix K p o t.2.2.1) (cap (k (i.1 + 1) L ((4, 0, 0) :: r) K) (k (i.1 + 1) L ((3, 1000 + K.2.2.2.1.length, 0) :: r) (K.1, K.2.1, K.2.2.1, K.2.2.2.1 ++ [t.2.2.2.1.toNat], K.2.2.2.2)))
    | _ => none)
  | .iastore => (match st with
    | (1, q, s) :: (1, p, o) :: (3, c, _) :: r => cRg K c fun g t => cit (Nat.beq t.1 1 && Nat.beq t.2.1 0 && cix K p o t.2.2.1 && cWn W g 0 && !(cJs g 0) && cle t.2.2.2.1 (clo K q s) && cle (chi K q s) t.2.2.2.2.1) (k (i.1 + 1) L r (csA K g [(c, p, o, q, s)]))
    | _ => none)
  | .bastore => (match st with
    | (1, q, s) :: (1, p, o) :: (3, c, _) :: r => cRg K c fun g t => cit (Nat.beq t.1 1 && cix K p o t.2.2.1 && cWn W g 0 && !(cJs g 0) && cle t.2.2.2.1 (clo K q s) && cle (chi K q s) t.2.2.2.2.1 && (match t.2.1 with
        | 2 => cle 0 (clo K q s) && cle (chi K q s) 1
        | 3 => cle (-128) (clo K q s) && cle (chi K q s) 127
        | _ => false)) (k (i.1 + 1) L r (csA K g (bif Nat.beq t.2.1 2 then [(c, p, o, q, s)] else [])))
    | _ => none)
  | .lastore => (match st with
    | (2, q, s) :: (1, p, o) :: (3, c, _) :: r => cRg K c fun g t => cit (Nat.beq t.1 2 && cix K p o t.2.2.1 && cWn W g 0 && !(cJs g 0) && cle t.2.2.2.1 (clo K q s) && cle (chi K q s) t.2.2.2.2.1) (k (i.1 + 1) L r (csA K g []))
    | _ => none)
  | _ => none

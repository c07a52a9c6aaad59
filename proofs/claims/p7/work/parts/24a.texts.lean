-- ===== a checker of our own over abstract states: its texts =====
abbrev cW : Type := Nat × Nat × Int
abbrev cV : Type := List (Int × Int)
abbrev cD : Type := List (Nat × Nat × Int)
abbrev cF : Type := List (Nat × Nat × cW)
abbrev cAf : Type := List (Nat × Nat × Int × Nat × Int)
-- V, D, N, R, F, E, A
abbrev cK : Type := cV × cD × List (Nat × Int) × List Nat × cF × List (Nat × Nat × Nat) × cAf
abbrev cT : Type := List cW × List cW × cK
abbrev cEx : Type := List cW × cK
-- a region: kind, class or array type, length, lowest, highest (of a ref array: the region in lowest), the fields' types
abbrev cRt : Type := Nat × Nat × Nat × Int × Int × List (Nat × Int × Int)
abbrev cRk : Type := Int × List (Int × Nat)
-- method, depth, writes, pre, posts, cuts
abbrev cC : Type := Nat × Nat × List (Nat × Nat) × cT × List cT × List (Nat × cT × cRk)
def cle (a b : Int) : Bool := match b - a with
  | .ofNat _ => true
  | .negSucc _ => false
def ceI (a b : Int) : Bool := cle a b && cle b a
def cmn (a b : Int) : Int := bif cle a b then a else b
def cmx (a b : Int) : Int := bif cle a b then b else a
def cM32 : Int := 2147483648
def cM64 : Int := 9223372036854775808
def cV0 (V : cV) (p : Nat) : Int × Int := match V[p]? with
  | some q => q
  | none => (-cM64, cM64)
def cub (K : cK) (p : Nat) : Int := K.2.2.2.2.2.1.foldr (fun t m => bif Nat.beq t.1 p then cmn m ((cV0 K.1 t.2.2).2 - (cV0 K.1 t.2.1).1) else bif Nat.beq t.2.1 p then cmn m ((cV0 K.1 t.2.2).2 - (cV0 K.1 t.1).1) else m) (K.2.1.foldr (fun t m => bif Nat.beq t.1 p then cmn m (t.2.2 + (cV0 K.1 t.2.1).2) else m) (cV0 K.1 p).2)
def clb (K : cK) (p : Nat) : Int := K.2.1.foldr (fun t m => bif Nat.beq t.2.1 p then cmx m ((cV0 K.1 t.1).1 - t.2.2) else m) (cV0 K.1 p).1
def cdf (K : cK) (p q : Nat) (c : Int) : Bool := (Nat.beq p q && cle 0 c) || cle (cub K p - clb K q) c || K.2.1.any (fun t => Nat.beq t.1 p && Nat.beq t.2.1 q && cle t.2.2 c)
def cnz (K : cK) (p : Nat) (o : Int) : Bool := cle 1 (clb K p + o) || cle (cub K p + o) (-1) || K.2.2.1.any (fun t => Nat.beq t.1 p && ceI t.2 o)
def cnew (K : cK) (l u : Int) : cK := (K.1 ++ [(l, u)], K.2)
def creg (K : cK) (c : Nat) : Option Nat := bif Nat.blt c 146 then some c else bif Nat.blt c 1000 then none else K.2.2.2.1[c - 1000]?
def cset (K : cK) (p : Nat) (l u : Int) : cK := (K.1.set p (l, u), K.2)
def cnle (K : cK) (p : Nat) (o : Int) (q : Nat) (r : Int) : Option cK :=
  bif Nat.beq p q then (bif cle o r then some K else none) else
  bif cle (clb K p) (cmn (cub K p) (cub K q + (r - o))) && cle (cmx (clb K q) (clb K p - (r - o))) (cub K q) then
    some ((K.1.set p ((cV0 K.1 p).1, cmn (cub K p) (cub K q + (r - o)))).set q (cmx (clb K q) (clb K p - (r - o)), (cV0 K.1 q).2),
      bif Nat.beq p 0 || Nat.beq q 0 then K.2.1 else (p, q, r - o) :: K.2.1, K.2.2)
  else none
def cnec (K : cK) (p : Nat) (c : Int) : Option cK :=
  let l := clb K p
  let u := cub K p
  let l' := bif ceI l c then l + 1 else l
  let u' := bif ceI u c then u - 1 else u
  bif cle l' u' then some (K.1.set p (l', u'), K.2.1, bif ceI l c || ceI u c then K.2.2.1 else (p, -c) :: K.2.2.1, K.2.2.2) else none
def cnne (K : cK) (p : Nat) (o : Int) (q : Nat) (r : Int) : Option cK :=
  bif Nat.beq p q then (bif ceI o r then none else some K) else
  bif ceI (clb K q) (cub K q) then cnec K p (clb K q + r - o) else
  bif ceI (clb K p) (cub K p) then cnec K q (clb K p + o - r) else some K
def cneq (K : cK) (p : Nat) (o : Int) (q : Nat) (r : Int) : Option cK := match cnle K p o q r with
  | some K1 => cnle K1 q r p o
  | none => none
def cap (a b : Option (List cEx)) : Option (List cEx) := match a with
  | some x => (match b with
    | some y => some (x ++ y)
    | none => none)
  | none => none
def cbr (a : Option cK) (k : cK → Option (List cEx)) : Option (List cEx) := match a with
  | some K => k K
  | none => some []
/-- the branch c between two numbers: k1 where it is taken, k2 where not -/
def ccmp (c : Jvm.ClassFile.Cond) (K : cK) (p : Nat) (o : Int) (q : Nat) (r : Int) (k1 k2 : cK → Option (List cEx)) : Option (List cEx) := match c with
  | .eq => cap (cbr (cneq K p o q r) k1) (cbr (cnne K p o q r) k2)
  | .ne => cap (cbr (cnne K p o q r) k1) (cbr (cneq K p o q r) k2)
  | .lt => cap (cbr (cnle K p (o + 1) q r) k1) (cbr (cnle K q r p o) k2)
  | .ge => cap (cbr (cnle K q r p o) k1) (cbr (cnle K p (o + 1) q r) k2)
  | .gt => cap (cbr (cnle K q (r + 1) p o) k1) (cbr (cnle K p o q r) k2)
  | .le => cap (cbr (cnle K p o q r) k1) (cbr (cnle K q (r + 1) p o) k2)
def clo (K : cK) (p : Nat) (o : Int) : Int := clb K p + o
def chi (K : cK) (p : Nat) (o : Int) : Int := cub K p + o
def cin (M l u : Int) : Bool := cle (-M) l && cle u (M - 1)
/-- a sum; M: 2^31 or 2^63 -/
def cadd (M : Int) (K : cK) (p : Nat) (o : Int) (q : Nat) (r : Int) (k : cK → Nat → Int → Option (List cEx)) : Option (List cEx) :=
  bif cin M (clb K p + o + (clb K q + r)) (cub K p + o + (cub K q + r)) then
    bif Nat.beq q 0 then k K p (o + r) else
    (match K.2.2.2.2.2.1.find? (fun t => Nat.beq t.1 p && Nat.beq t.2.1 q) with
    | some t => k (cset K t.2.2 (cmx (clb K t.2.2) (clb K p + clb K q)) (cmn (cub K t.2.2) (cub K p + cub K q))) t.2.2 (o + r)
    | none => k (K.1 ++ [(clb K p + clb K q, cub K p + cub K q)], K.2.1, K.2.2.1, K.2.2.2.1, K.2.2.2.2.1, (p, q, K.1.length) :: K.2.2.2.2.2.1, K.2.2.2.2.2.2) K.1.length (o + r))
  else k (cnew K (-M) (M - 1)) K.1.length 0
def cadd' (M : Int) (K : cK) (p : Nat) (o : Int) (q : Nat) (r : Int) (k : cK → Nat → Int → Option (List cEx)) : Option (List cEx) := bif Nat.beq p 0 then cadd M K q r p o k else cadd M K p o q r k
def csub (M : Int) (K : cK) (p : Nat) (o : Int) (q : Nat) (r : Int) (k : cK → Nat → Int → Option (List cEx)) : Option (List cEx) :=
  bif Nat.beq p q && cin M (o - r) (o - r) then k K 0 (o - r) else
  bif cin M (clb K p + o - (cub K q + r)) (cub K p + o - (clb K q + r)) then
    bif Nat.beq q 0 then k K p (o - r) else k (cnew K (clb K p + o - (cub K q + r)) (cub K p + o - (clb K q + r))) K.1.length 0
  else k (cnew K (-M) (M - 1)) K.1.length 0
def cfit (M l u : Int) : Int × Int := bif cin M l u then (l, u) else (-M, M - 1)
def cmulr (a b c d : Int) : Int × Int := (cmn (cmn (a * c) (a * d)) (cmn (b * c) (b * d)), cmx (cmx (a * c) (a * d)) (cmx (b * c) (b * d)))
def cdivr (M a b c d : Int) : Int × Int := bif cle 1 c then (bif cle 0 a then 0 else -((-a) / c), bif cle 0 b then b / c else 0) else (-M, M - 1)
def cremr (M a b c d : Int) : Int × Int := bif cle 1 c then (bif cle 0 a then 0 else -(d - 1), bif cle 0 a then cmn b (d - 1) else d - 1) else (-M, M - 1)
def candr (a b c d : Int) : Int × Int := bif cle 0 a && cle 0 c then (0, cmn b d) else bif cle 0 c then (0, d) else bif cle 0 a then (0, b) else (-cM32, cM32 - 1)
def cfr (K : cK) (q : Int × Int) (k : cK → Nat → Option (List cEx)) : Option (List cEx) := k (cnew K q.1 q.2) K.1.length
-- locals
def cG (L : List cW) (i : Nat) : cW := match L[i]? with
  | some w => w
  | none => (0, 0, 0)
def cclr (L : List cW) (i : Nat) : List cW := match i with
  | 0 => L
  | j + 1 => bif Nat.beq (cG L j).1 2 then L.set j (0, 0, 0) else L
def cS1 (L : List cW) (i : Nat) (w : cW) : List cW := (cclr L i).set i w
def cS2 (L : List cW) (i : Nat) (w : cW) : List cW := ((cclr L i).set i w).set (i + 1) (0, 0, 0)
def cws : List cW → Nat
  | [] => 0
  | w :: r => (bif Nat.beq w.1 2 then 2 else 1) + cws r
def cEn : Nat → List cW → List cW
  | n, [] => List.replicate n (0, 0, 0)
  | n, w :: r => bif Nat.beq w.1 2 then w :: (0, 0, 0) :: cEn (n - 2) r else w :: cEn (n - 1) r
-- templates
def cvm (mu : List (Nat × Int)) (nu : List Nat) (t : cW) : cW := match t.1 with
  | 1 => (match mu[t.2.1]? with
    | some m => (1, m.1, m.2 + t.2.2)
    | none => (0, 0, 0))
  | 2 => (match mu[t.2.1]? with
    | some m => (2, m.1, m.2 + t.2.2)
    | none => (0, 0, 0))
  | 3 => (bif Nat.blt t.2.1 1000 then t else match nu[t.2.1 - 1000]? with
    | some c => (3, c, 0)
    | none => (0, 0, 0))
  | 6 => (bif Nat.blt t.2.1 1000 then t else match nu[t.2.1 - 1000]? with
    | some c => (6, c, 0)
    | none => (0, 0, 0))
  | _ => t
def ccq (K : cK) (p : Nat) (o : Int) (q : Nat) (r : Int) : Bool := (Nat.beq p q && ceI o r) || (ceI (clo K p o) (chi K p o) && ceI (clo K p o) (clo K q r) && ceI (clo K p o) (chi K q r))
/-- the template's value t, seen through mu and nu, is the value w -/
def cvw (K : cK) (mu : List (Nat × Int)) (nu : List Nat) (t w : cW) : Bool := match t.1 with
  | 1 => Nat.beq w.1 1 && (match mu[t.2.1]? with
    | some m => ccq K m.1 (m.2 + t.2.2) w.2.1 w.2.2
    | none => false)
  | 2 => Nat.beq w.1 2 && (match mu[t.2.1]? with
    | some m => ccq K m.1 (m.2 + t.2.2) w.2.1 w.2.2
    | none => false)
  | 3 => Nat.beq w.1 3 && (bif Nat.blt t.2.1 1000 then Nat.beq w.2.1 t.2.1 else match nu[t.2.1 - 1000]? with
    | some c => Nat.beq w.2.1 c
    | none => false)
  | 4 => Nat.beq w.1 4
  | 5 => Nat.beq w.1 5 && Nat.beq w.2.1 t.2.1
  | 6 => (Nat.beq w.1 3 || Nat.beq w.1 6) && (bif Nat.blt t.2.1 1000 then Nat.beq w.2.1 t.2.1 else match nu[t.2.1 - 1000]? with
    | some c => Nat.beq w.2.1 c
    | none => false)
  | _ => false
def cvl (f : cW → cW → Bool) : List cW → List cW → Bool
  | [], [] => true
  | t :: r, w :: s => f t w && cvl f r s
  | _, _ => false
def cnc (nu : List Nat) (c : Nat) : Nat := bif Nat.blt c 1000 then c else match nu[c - 1000]? with
  | some x => x
  | none => c
/-- the facts, regions and bounds of T hold of the state -/
def cver (T : cT) (L St : List cW) (K : cK) (mu : List (Nat × Int)) (nu : List Nat) : Bool :=
  cvl (fun t w => Nat.beq t.1 0 || cvw K mu nu t w) T.1 L && cvl (cvw K mu nu) T.2.1 St &&
  T.2.2.2.2.2.2.1.all (fun t => (Nat.blt t.1 1000 || Nat.blt (t.1 - 1000) nu.length) && match K.2.2.2.2.1.find? (fun f => Nat.beq f.1 (cnc nu t.1) && Nat.beq f.2.1 t.2.1) with
    | some f => cvw K mu nu t.2.2 f.2.2
    | none => false) &&
  (Nat.beq mu.length T.2.2.1.length && (match mu with
    | m :: _ => Nat.beq m.1 0 && ceI m.2 0
    | [] => false)) &&
  (List.zip mu T.2.2.1).all (fun z => Nat.blt z.1.1 K.1.length && cle z.2.1 (clb K z.1.1 + z.1.2) && cle (cub K z.1.1 + z.1.2) z.2.2) &&
  T.2.2.2.1.all (fun t => match mu[t.1]? with
    | some m => (match mu[t.2.1]? with
      | some n => cdf K m.1 n.1 (t.2.2 - m.2 + n.2)
      | none => false)
    | none => false) &&
  T.2.2.2.2.1.all (fun t => match mu[t.1]? with
    | some m => cnz K m.1 (m.2 + t.2)
    | none => false) &&
  (Nat.beq nu.length T.2.2.2.2.2.1.length && (List.zip nu T.2.2.2.2.2.1).all (fun z => match creg K z.1 with
    | some r => Nat.beq r z.2
    | none => false)) &&
  (match T.2.2.2.2.2.2.2.1 with
    | [] => true
    | _ => false) && (match T.2.2.2.2.2.2.2.2 with
    | [] => true
    | _ => false)

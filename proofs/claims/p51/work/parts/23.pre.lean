-- ===== 23.pre: 5 texts =====
section
-- ===== the law up to its loop =====
theorem fl_0 : aF 0 zM333.2.2.2.2.2.2.2 = some (0, .new 7, 3, 11, 0) := by decide +kernel
theorem fl_3 : aF 3 zM333.2.2.2.2.2.2.2 = some (3, .dup, 1, 0, 0) := by decide +kernel
theorem fl_4 : aF 4 zM333.2.2.2.2.2.2.2 = some (4, .invokespecial 9, 3, 136, 0) := by decide +kernel
theorem fl_7 : aF 7 zM333.2.2.2.2.2.2.2 = some (7, .astore_n 1, 1, 0, 0) := by decide +kernel
theorem fl_8 : aF 8 zM333.2.2.2.2.2.2.2 = some (8, .new 10, 3, 12, 0) := by decide +kernel
theorem fl_11 : aF 11 zM333.2.2.2.2.2.2.2 = some (11, .dup, 1, 0, 0) := by decide +kernel
theorem fl_12 : aF 12 zM333.2.2.2.2.2.2.2 = some (12, .invokespecial 12, 3, 195, 0) := by decide +kernel
theorem fl_15 : aF 15 zM333.2.2.2.2.2.2.2 = some (15, .astore_n 2, 1, 0, 0) := by decide +kernel
theorem fl_16 : aF 16 zM333.2.2.2.2.2.2.2 = some (16, .iconst 0, 1, 0, 0) := by decide +kernel
theorem fl_17 : aF 17 zM333.2.2.2.2.2.2.2 = some (17, .istore_n 3, 1, 0, 0) := by decide +kernel
theorem law_pre {p : Program} {l : Launch} {e : Env} {s : State} {m : MethodId} {args : Array Value} {below : List Frame} {meth : Method} {c : Code} {Q : State → Prop} {b0 : Nat} {D : va_G} {cA : Nat → ClassId} {ea : Nat → Nat} {X : aX}
    (C : aCF (p, l, e, room_1, s, m, args, below, meth, c, Q, code, 4, b0, 0, 0, 13, 1, D, cA, ea, X)) (k : aSW (p, l, e, room_1, s, m, args, below, meth, c, Q, code, 4, b0, 0, 0, 13, 1, D, cA, ea, X) 18 [some (.retAddr 1), some (.ref 0), some (.ref 72), some (.int 0)] [] zH0) :
    aSW (p, l, e, room_1, s, m, args, below, meth, c, Q, code, 4, b0, 0, 0, 13, 1, D, cA, ea, X) 0 (aE 4 [.retAddr 1]) [] ([], 0) := by
  have hCd : aCd (p, l, e, room_1, s, m, args, below, meth, c, Q, code, 4, b0, 0, 0, 13, 1, D, cA, ea, X) zM333 := ⟨zlw_ok, rfl, rfl⟩
  have at' : ∀ {i : aI}, i ∈ zM333.2.2.2.2.2.2.2 → _ := fun {i} hi => aCd_at hCd hi
  obtain ⟨h1, h2, r1, r2, l1, s2, c2⟩ := zinit
  have m1 : zM136 ∈ zmt := List.mem_of_getElem? (i := 136) rfl
  have m2 : zM195 ∈ zmt := List.mem_of_getElem? (i := 195) rfl
  have r2' : arun zX0 3000 10 zM195 0 (aE zM195.2.2.2.1 [.ref 72]) [] (zb 12 h1) = some (none, h2) := by
    have := r2
    unfold zr2 at this
    rw [r1] at this
    exact this
  have hX : ∀ x q, zX0 x = some q → X x = some q := fun x q h => by cases h
  have M1 := aMet_X hX (aM_of (a_sim zX0 3000) l D cA ea b0 10 zM136 [.ref 0] (zb 11 ([], 0)) none h1 m1 r1 (by decide))
  have M2 := aMet_X hX (aM_of (a_sim zX0 3000) l D cA ea b0 10 zM195 [.ref 72] (zb 12 h1) none h2 m2 r2' (by decide))
  have G1 := arun_grows _ _ _ _ _ _ _ _ r1
  have G2 := arun_grows _ _ _ _ _ _ _ _ r2'
  dsimp only at G1 G2
  have n2 : h2.1.length = 146 := (ceqL_get c2).1.trans zH0_len
  have n2' : h2.2 = 58023 := s2
  have n11 : zN 11 = 10 := rfl
  have n12 : zN 12 = 101 := rfl
  have zb1 : (zb 12 h1).1.length = 73 := by unfold zb; rw [List.length_append, l1]; rfl
  have zb2 : (zb 12 h1).2 = h1.2 + 101 := rfl
  have zb3 : (zb 11 ([], 0)).1.length = 1 := rfl
  have zb4 : (zb 11 ([], 0)).2 = 10 := rfl
  have R0 : ∀ (h : aH), h.1.length ≤ 146 → h.2 ≤ 58023 → aRM (p, l, e, room_1, s, m, args, below, meth, c, Q, code, 4, b0, 0, 0, 13, 1, D, cA, ea, X) h := fun h a b => ⟨Nat.le_trans a (by show 146 ≤ 0 + 600000; omega), Nat.le_trans b (by show 58023 ≤ 0 + 7302250; omega)⟩
  have R1 : aRm (p, l, e, room_1, s, m, args, below, meth, c, Q, code, 4, b0, 0, 0, 13, 1, D, cA, ea, X) 11 h2 := ⟨R0 h2 (by omega) (by omega), by show 11 ≤ 2048; omega, by show 41 * 11 ≤ 84000; omega⟩
  have i0 := at' (aF_some fl_0).1
  refine s_new (a := 11) (by decide) (z_cls (o := 13) i0.2.1).2 (z_ini (by decide)).1 (z_ini (by decide)).2 (R0 (zb 11 ([], 0)) (by omega) (by omega)) C i0.1 ?_
  have i3 := at' (aF_some fl_3).1
  refine s_dup rfl C i3.1 ?_
  have i4 := at' (aF_some fl_4).1
  refine s_init (as := []) (r := [.ref 0]) (h := zb 11 ([], 0)) (h1 := h1) (h' := h2) (d' := 10) (Y := zM136) (v := none) (a := 136) rfl (zmt_ok _ m1) rfl i4.2.1 rfl (by decide) M1 G1 (by omega) R1 C i4.1 ?_
  have i7 := at' (aF_some fl_7).1
  refine s_astoren (z := 1) (x := 0) (by decide) C i7.1 ?_
  have i8 := at' (aF_some fl_8).1
  refine s_new (a := 12) (by decide) (z_cls (o := 13) i8.2.1).2 (z_ini (by decide)).1 (z_ini (by decide)).2 (R0 (zb 12 h1) (by omega) (by omega)) C i8.1 ?_
  rw [l1]
  have i11 := at' (aF_some fl_11).1
  refine s_dup rfl C i11.1 ?_
  have i12 := at' (aF_some fl_12).1
  refine s_init (as := []) (r := [.ref 72]) (h := zb 12 h1) (h1 := h2) (h' := h2) (d' := 10) (Y := zM195) (v := none) (a := 195) rfl (zmt_ok _ m2) rfl i12.2.1 rfl (by decide) M2 G2 ⟨Nat.le_refl _, Nat.le_refl _⟩ R1 C i12.1 ?_
  have i15 := at' (aF_some fl_15).1
  refine s_astoren (z := 2) (x := 72) (by decide) C i15.1 ?_
  have i16 := at' (aF_some fl_16).1
  refine s_iconst C i16.1 ?_
  have i17 := at' (aF_some fl_17).1
  refine s_istoren (z := 3) (x := 0) (by decide) C i17.1 ?_
  exact aSW_ceq c2 s2 k
end
section
-- ===== a checker of our own over abstract states: its texts =====
abbrev cW : Type := Nat × Nat × Int
abbrev cV : Type := List (Int × Int)
abbrev cD : Type := List (Nat × Nat × Int)
abbrev cF : Type := List (Nat × Nat × cW)
abbrev cAf : Type := List (Nat × Nat × Int × Nat × Int)
-- V, D, N, R, F, E, A
abbrev cK : Type := cV × cD × List (Nat × Int) × List Nat × cF × List (Nat × Nat × Nat) × cAf
abbrev cT : Type := List cW × List cW × cK
abbrev cEx : Type := List cW × cK
-- a region: kind, class or array type, length, lowest, highest (of a ref array: the region in lowest), the fields' types
abbrev cRt : Type := Nat × Nat × Nat × Int × Int × List (Nat × Int × Int)
abbrev cRk : Type := Int × List (Int × Nat)
-- method, depth, writes, pre, posts, cuts
abbrev cC : Type := Nat × Nat × List (Nat × Nat) × cT × List cT × List (Nat × cT × cRk)
def cle (a b : Int) : Bool := match b - a with
  | .ofNat _ => true
  | .negSucc _ => false
def ceI (a b : Int) : Bool := cle a b && cle b a
def cmn (a b : Int) : Int := bif cle a b then a else b
def cmx (a b : Int) : Int := bif cle a b then b else a
def cM32 : Int := 2147483648
def cM64 : Int := 9223372036854775808
def cV0 (V : cV) (p : Nat) : Int × Int := match V[p]? with
  | some q => q
  | none => (-cM64, cM64)
def cub (K : cK) (p : Nat) : Int := K.2.2.2.2.2.1.foldr (fun t m => bif Nat.beq t.1 p then cmn m ((cV0 K.1 t.2.2).2 - (cV0 K.1 t.2.1).1) else bif Nat.beq t.2.1 p then cmn m ((cV0 K.1 t.2.2).2 - (cV0 K.1 t.1).1) else m) (K.2.1.foldr (fun t m => bif Nat.beq t.1 p then cmn m (t.2.2 + (cV0 K.1 t.2.1).2) else m) (cV0 K.1 p).2)
def clb (K : cK) (p : Nat) : Int := K.2.1.foldr (fun t m => bif Nat.beq t.2.1 p then cmx m ((cV0 K.1 t.1).1 - t.2.2) else m) (cV0 K.1 p).1
def cdf (K : cK) (p q : Nat) (c : Int) : Bool := (Nat.beq p q && cle 0 c) || cle (cub K p - clb K q) c || K.2.1.any (fun t => Nat.beq t.1 p && Nat.beq t.2.1 q && cle t.2.2 c)
def cnz (K : cK) (p : Nat) (o : Int) : Bool := cle 1 (clb K p + o) || cle (cub K p + o) (-1) || K.2.2.1.any (fun t => Nat.beq t.1 p && ceI t.2 o)
def cnew (K : cK) (l u : Int) : cK := (K.1 ++ [(l, u)], K.2)
def creg (K : cK) (c : Nat) : Option Nat := bif Nat.blt c 146 then some c else bif Nat.blt c 1000 then none else K.2.2.2.1[c - 1000]?
def cset (K : cK) (p : Nat) (l u : Int) : cK := (K.1.set p (l, u), K.2)
def cnle (K : cK) (p : Nat) (o : Int) (q : Nat) (r : Int) : Option cK :=
  bif Nat.beq p q then (bif cle o r then some K else none) else
  bif cle (clb K p) (cmn (cub K p) (cub K q + (r - o))) && cle (cmx (clb K q) (clb K p - (r - o))) (cub K q) then
    some ((K.1.set p ((cV0 K.1 p).1, cmn (cub K p) (cub K q + (r - o)))).set q (cmx (clb K q) (clb K p - (r - o)), (cV0 K.1 q).2),
      bif Nat.beq p 0 || Nat.beq q 0 then K.2.1 else (p, q, r - o) :: K.2.1, K.2.2)
  else none
def cnec (K : cK) (p : Nat) (c : Int) : Option cK :=
  let l := clb K p
  let u := cub K p
  let l' := bif ceI l c then l + 1 else l
  let u' := bif ceI u c then u - 1 else u
  bif cle l' u' then some (K.1.set p (l', u'), K.2.1, bif ceI l c || ceI u c then K.2.2.1 else (p, -c) :: K.2.2.1, K.2.2.2) else none
def cnne (K : cK) (p : Nat) (o : Int) (q : Nat) (r : Int) : Option cK :=
  bif Nat.beq p q then (bif ceI o r then none else some K) else
  bif ceI (clb K q) (cub K q) then cnec K p (clb K q + r - o) else
  bif ceI (clb K p) (cub K p) then cnec K q (clb K p + o - r) else some K
def cneq (K : cK) (p : Nat) (o : Int) (q : Nat) (r : Int) : Option cK := match cnle K p o q r with
  | some K1 => cnle K1 q r p o
  | none => none
def cap (a b : Option (List cEx)) : Option (List cEx) := match a with
  | some x => (match b with
    | some y => some (x ++ y)
    | none => none)
  | none => none
def cbr (a : Option cK) (k : cK → Option (List cEx)) : Option (List cEx) := match a with
  | some K => k K
  | none => some []
def ccmp (c : Jvm.ClassFile.Cond) (K : cK) (p : Nat) (o : Int) (q : Nat) (r : Int) (k1 k2 : cK → Option (List cEx)) : Option (List cEx) := match c with
  | .eq => cap (cbr (cneq K p o q r) k1) (cbr (cnne K p o q r) k2)
  | .ne => cap (cbr (cnne K p o q r) k1) (cbr (cneq K p o q r) k2)
  | .lt => cap (cbr (cnle K p (o + 1) q r) k1) (cbr (cnle K q r p o) k2)
  | .ge => cap (cbr (cnle K q r p o) k1) (cbr (cnle K p (o + 1) q r) k2)
  | .gt => cap (cbr (cnle K q (r + 1) p o) k1) (cbr (cnle K p o q r) k2)
  | .le => cap (cbr (cnle K p o q r) k1) (cbr (cnle K q (r + 1) p o) k2)
def clo (K : cK) (p : Nat) (o : Int) : Int := clb K p + o
def chi (K : cK) (p : Nat) (o : Int) : Int := cub K p + o
def cin (M l u : Int) : Bool := cle (-M) l && cle u (M - 1)
def cadd (M : Int) (K : cK) (p : Nat) (o : Int) (q : Nat) (r : Int) (k : cK → Nat → Int → Option (List cEx)) : Option (List cEx) :=
  bif cin M (clb K p + o + (clb K q + r)) (cub K p + o + (cub K q + r)) then
    bif Nat.beq q 0 then k K p (o + r) else
    (match K.2.2.2.2.2.1.find? (fun t => Nat.beq t.1 p && Nat.beq t.2.1 q) with
    | some t => k (cset K t.2.2 (cmx (clb K t.2.2) (clb K p + clb K q)) (cmn (cub K t.2.2) (cub K p + cub K q))) t.2.2 (o + r)
    | none => k (K.1 ++ [(clb K p + clb K q, cub K p + cub K q)], K.2.1, K.2.2.1, K.2.2.2.1, K.2.2.2.2.1, (p, q, K.1.length) :: K.2.2.2.2.2.1, K.2.2.2.2.2.2) K.1.length (o + r))
  else k (cnew K (-M) (M - 1)) K.1.length 0
def cadd' (M : Int) (K : cK) (p : Nat) (o : Int) (q : Nat) (r : Int) (k : cK → Nat → Int → Option (List cEx)) : Option (List cEx) := bif Nat.beq p 0 then cadd M K q r p o k else cadd M K p o q r k
def csub (M : Int) (K : cK) (p : Nat) (o : Int) (q : Nat) (r : Int) (k : cK → Nat → Int → Option (List cEx)) : Option (List cEx) :=
  bif Nat.beq p q && cin M (o - r) (o - r) then k K 0 (o - r) else
  bif cin M (clb K p + o - (cub K q + r)) (cub K p + o - (clb K q + r)) then
    bif Nat.beq q 0 then k K p (o - r) else k (cnew K (clb K p + o - (cub K q + r)) (cub K p + o - (clb K q + r))) K.1.length 0
  else k (cnew K (-M) (M - 1)) K.1.length 0
def cfit (M l u : Int) : Int × Int := bif cin M l u then (l, u) else (-M, M - 1)
def cmulr (a b c d : Int) : Int × Int := (cmn (cmn (a * c) (a * d)) (cmn (b * c) (b * d)), cmx (cmx (a * c) (a * d)) (cmx (b * c) (b * d)))
def cdivr (M a b c d : Int) : Int × Int := bif cle 1 c then (bif cle 0 a then 0 else -((-a) / c), bif cle 0 b then b / c else 0) else (-M, M - 1)
def cremr (M a b c d : Int) : Int × Int := bif cle 1 c then (bif cle 0 a then 0 else -(d - 1), bif cle 0 a then cmn b (d - 1) else d - 1) else (-M, M - 1)
def candr (a b c d : Int) : Int × Int := bif cle 0 a && cle 0 c then (0, cmn b d) else bif cle 0 c then (0, d) else bif cle 0 a then (0, b) else (-cM32, cM32 - 1)
def cfr (K : cK) (q : Int × Int) (k : cK → Nat → Option (List cEx)) : Option (List cEx) := k (cnew K q.1 q.2) K.1.length
-- locals
def cG (L : List cW) (i : Nat) : cW := match L[i]? with
  | some w => w
  | none => (0, 0, 0)
def cclr (L : List cW) (i : Nat) : List cW := match i with
  | 0 => L
  | j + 1 => bif Nat.beq (cG L j).1 2 then L.set j (0, 0, 0) else L
def cS1 (L : List cW) (i : Nat) (w : cW) : List cW := (cclr L i).set i w
def cS2 (L : List cW) (i : Nat) (w : cW) : List cW := ((cclr L i).set i w).set (i + 1) (0, 0, 0)
def cws : List cW → Nat
  | [] => 0
  | w :: r => (bif Nat.beq w.1 2 then 2 else 1) + cws r
def cEn : Nat → List cW → List cW
  | n, [] => List.replicate n (0, 0, 0)
  | n, w :: r => bif Nat.beq w.1 2 then w :: (0, 0, 0) :: cEn (n - 2) r else w :: cEn (n - 1) r
def ccq (K : cK) (p : Nat) (o : Int) (q : Nat) (r : Int) : Bool := (Nat.beq p q && ceI o r) || (ceI (clo K p o) (chi K p o) && ceI (clo K p o) (clo K q r) && ceI (clo K p o) (chi K q r))
def cvw (K : cK) (mu : List (Nat × Int)) (nu : List Nat) (t w : cW) : Bool := match t.1 with
  | 1 => Nat.beq w.1 1 && (match mu[t.2.1]? with
    | some m => ccq K m.1 (m.2 + t.2.2) w.2.1 w.2.2
    | none => false)
  | 2 => Nat.beq w.1 2 && (match mu[t.2.1]? with
    | some m => ccq K m.1 (m.2 + t.2.2) w.2.1 w.2.2
    | none => false)
  | 3 => Nat.beq w.1 3 && (bif Nat.blt t.2.1 1000 then Nat.beq w.2.1 t.2.1 else match nu[t.2.1 - 1000]? with
    | some c => Nat.beq w.2.1 c
    | none => false)
  | 4 => Nat.beq w.1 4
  | 5 => Nat.beq w.1 5 && Nat.beq w.2.1 t.2.1
  | 6 => (Nat.beq w.1 3 || Nat.beq w.1 6) && (bif Nat.blt t.2.1 1000 then Nat.beq w.2.1 t.2.1 else match nu[t.2.1 - 1000]? with
    | some c => Nat.beq w.2.1 c
    | none => false)
  | _ => false
def cvl (f : cW → cW → Bool) : List cW → List cW → Bool
  | [], [] => true
  | t :: r, w :: s => f t w && cvl f r s
  | _, _ => false
def cnc (nu : List Nat) (c : Nat) : Nat := bif Nat.blt c 1000 then c else match nu[c - 1000]? with
  | some x => x
  | none => c
def cver (T : cT) (L St : List cW) (K : cK) (mu : List (Nat × Int)) (nu : List Nat) : Bool :=
  cvl (fun t w => Nat.beq t.1 0 || cvw K mu nu t w) T.1 L && cvl (cvw K mu nu) T.2.1 St &&
  T.2.2.2.2.2.2.1.all (fun t => (Nat.blt t.1 1000 || Nat.blt (t.1 - 1000) nu.length) && match K.2.2.2.2.1.find? (fun f => Nat.beq f.1 (cnc nu t.1) && Nat.beq f.2.1 t.2.1) with
    | some f => cvw K mu nu t.2.2 f.2.2
    | none => false) &&
  (Nat.beq mu.length T.2.2.1.length && (match mu with
    | m :: _ => Nat.beq m.1 0 && ceI m.2 0
    | [] => false)) &&
  (List.zip mu T.2.2.1).all (fun z => Nat.blt z.1.1 K.1.length && cle z.2.1 (clb K z.1.1 + z.1.2) && cle (cub K z.1.1 + z.1.2) z.2.2) &&
  T.2.2.2.1.all (fun t => match mu[t.1]? with
    | some m => (match mu[t.2.1]? with
      | some n => cdf K m.1 n.1 (t.2.2 - m.2 + n.2)
      | none => false)
    | none => false) &&
  T.2.2.2.2.1.all (fun t => match mu[t.1]? with
    | some m => cnz K m.1 (m.2 + t.2)
    | none => false) &&
  (Nat.beq nu.length T.2.2.2.2.2.1.length && (List.zip nu T.2.2.2.2.2.1).all (fun z => match creg K z.1 with
    | some r => Nat.beq r z.2
    | none => false)) &&
  (match T.2.2.2.2.2.2.2.1 with
    | [] => true
    | _ => false) && (match T.2.2.2.2.2.2.2.2 with
    | [] => true
    | _ => false)
end
section
-- ===== the regions (by program) =====
def cRT_0 : List cRt := [(0, 11, 0, .ofNat 0, .ofNat 0, [(1, .ofNat 1, .ofNat 0), (1, .ofNat 13, .ofNat 0), (1, .ofNat 16, .ofNat 0), (1, .ofNat 33, .ofNat 0), (1, .ofNat 41, .ofNat 0), (1, .ofNat 48, .ofNat 0), (1, .ofNat 55, .ofNat 0), (1, .ofNat 63, .ofNat 0), (1, .ofNat 66, .ofNat 0), (1, .ofNat 68, .ofNat 0)]), (0, 6, 0, .ofNat 0, .ofNat 0, [(0, .ofNat 0, .ofNat 3649), (0, .ofNat 0, .ofNat 150), (0, .negSucc 2147483647, .ofNat 2147483647), (0, .negSucc 2147483647, .ofNat 2147483647), (0, .ofNat 0, .ofNat 150), (0, .negSucc 2147483647, .ofNat 2147483647), (0, .ofNat 0, .ofNat 200), (1, .ofNat 2, .ofNat 0), (1, .ofNat 3, .ofNat 0), (1, .ofNat 4, .ofNat 0), (1, .ofNat 5, .ofNat 0), (1, .ofNat 6, .ofNat 0), (1, .ofNat 7, .ofNat 0), (1, .ofNat 8, .ofNat 0), (1, .ofNat 9, .ofNat 0), (1, .ofNat 10, .ofNat 0), (1, .ofNat 11, .ofNat 0), (1, .ofNat 12, .ofNat 0)]), (1, 0, 150, .ofNat 0, .ofNat 7, []), (1, 0, 150, .negSucc 2147483647, .ofNat 2147483647, []), (1, 0, 150, .negSucc 2147483647, .ofNat 2147483647, []), (1, 0, 150, .negSucc 2147483647, .ofNat 2147483647, []), (1, 0, 150, .ofNat 0, .ofNat 149, []), (1, 0, 150, .negSucc 2147483647, .ofNat 2147483647, []), (1, 0, 3600, .negSucc 2147483647, .ofNat 2147483647, []), (1, 0, 200, .negSucc 2147483647, .ofNat 2147483647, []), (1, 0, 200, .negSucc 2147483647, .ofNat 2147483647, []), (1, 0, 200, .negSucc 2147483647, .ofNat 2147483647, []), (1, 0, 200, .negSucc 2147483647, .ofNat 2147483647, []), (0, 7, 0, .ofNat 0, .ofNat 0, [(1, .ofNat 14, .ofNat 0), (1, .ofNat 15, .ofNat 0), (0, .ofNat 0, .ofNat 12)]), (1, 0, 12, .ofNat 0, .ofNat 24, []), (1, 0, 12, .ofNat 0, .ofNat 24, []), (0, 2, 0, .ofNat 0, .ofNat 0, [(1, .ofNat 1, .ofNat 0), (0, .ofNat 0, .ofNat 300), (0, .ofNat 0, .ofNat 40), (0, .ofNat 0, .ofNat 200), (1, .ofNat 17, .ofNat 0), (1, .ofNat 18, .ofNat 0), (1, .ofNat 19, .ofNat 0), (1, .ofNat 20, .ofNat 0), (1, .ofNat 21, .ofNat 0), (1, .ofNat 22, .ofNat 0), (1, .ofNat 23, .ofNat 0), (1, .ofNat 24, .ofNat 0), (1, .ofNat 25, .ofNat 0), (1, .ofNat 26, .ofNat 0), (1, .ofNat 27, .ofNat 0), (1, .ofNat 28, .ofNat 0), (1, .ofNat 29, .ofNat 0), (1, .ofNat 30, .ofNat 0), (1, .ofNat 31, .ofNat 0), (1, .ofNat 32, .ofNat 0)]), (1, 0, 300, .ofNat 0, .ofNat 149, []), (1, 0, 300, .ofNat 0, .ofNat 149, []), (1, 0, 300, .ofNat 0, .ofNat 7, [])]
def cRT_1 : List cRt := [(1, 0, 300, .negSucc 2147483647, .ofNat 2147483647, []), (1, 0, 300, .ofNat 0, .ofNat 299, []), (1, 0, 4, .negSucc 2147483647, .ofNat 2147483647, []), (1, 0, 40, .negSucc 2147483647, .ofNat 2147483647, []), (1, 0, 40, .negSucc 2147483647, .ofNat 2147483647, []), (1, 0, 40, .negSucc 2147483647, .ofNat 2147483647, []), (1, 0, 40, .negSucc 2147483647, .ofNat 2147483647, []), (1, 0, 200, .negSucc 2147483647, .ofNat 2147483647, []), (1, 0, 200, .negSucc 2147483647, .ofNat 2147483647, []), (1, 0, 200, .negSucc 2147483647, .ofNat 2147483647, []), (1, 0, 200, .negSucc 2147483647, .ofNat 2147483647, []), (1, 0, 200, .negSucc 2147483647, .ofNat 2147483647, []), (1, 0, 1500, .negSucc 2147483647, .ofNat 2147483647, []), (0, 10, 0, .ofNat 0, .ofNat 0, [(1, .ofNat 34, .ofNat 0), (0, .ofNat 0, .ofNat 160), (1, .ofNat 35, .ofNat 0), (1, .ofNat 36, .ofNat 0), (1, .ofNat 37, .ofNat 0), (1, .ofNat 38, .ofNat 0), (1, .ofNat 39, .ofNat 0), (0, .ofNat 0, .ofNat 16), (1, .ofNat 40, .ofNat 0), (0, .ofNat 0, .ofNat 2400), (0, .ofNat 0, .ofNat 160), (0, .ofNat 0, .ofNat 160), (0, .negSucc 0, .ofNat 160), (4, .ofNat 40, .ofNat 43), (0, .negSucc 2147483647, .ofNat 2147483647)]), (1, 3, 160, .negSucc 127, .ofNat 127, []), (1, 3, 2560, .negSucc 127, .ofNat 127, []), (1, 0, 16, .ofNat 0, .ofNat 160, []), (1, 0, 16, .negSucc 2147483647, .ofNat 2147483647, []), (1, 0, 16, .negSucc 2147483647, .ofNat 2147483647, []), (1, 0, 16, .negSucc 2147483647, .ofNat 2147483647, [])]
def cRT_2 : List cRt := [(1, 0, 13, .negSucc 2147483647, .ofNat 2147483647, []), (0, 0, 0, .ofNat 0, .ofNat 0, [(1, .ofNat 1, .ofNat 0), (1, .ofNat 16, .ofNat 0), (1, .ofNat 33, .ofNat 0), (1, .ofNat 42, .ofNat 0), (1, .ofNat 43, .ofNat 0), (1, .ofNat 44, .ofNat 0), (1, .ofNat 45, .ofNat 0), (0, .negSucc 2147483647, .ofNat 2147483647), (1, .ofNat 46, .ofNat 0), (1, .ofNat 47, .ofNat 0)]), (3, 4, 10, .ofNat 146, .ofNat 0, []), (1, 0, 13, .negSucc 2147483647, .ofNat 2147483647, []), (1, 0, 8, .negSucc 2147483647, .ofNat 2147483647, []), (1, 0, 6, .negSucc 2147483647, .ofNat 2147483647, []), (1, 0, 1500, .negSucc 2147483647, .ofNat 2147483647, []), (1, 0, 150, .negSucc 2147483647, .ofNat 2147483647, []), (0, 5, 0, .ofNat 0, .ofNat 0, [(1, .ofNat 1, .ofNat 0), (1, .ofNat 16, .ofNat 0), (1, .ofNat 41, .ofNat 0), (1, .ofNat 49, .ofNat 0), (0, .ofNat 0, .ofNat 10), (1, .ofNat 50, .ofNat 0), (1, .ofNat 51, .ofNat 0), (0, .negSucc 2147483647, .ofNat 2147483647), (1, .ofNat 52, .ofNat 0), (0, .ofNat 0, .ofNat 9), (1, .ofNat 53, .ofNat 0), (1, .ofNat 54, .ofNat 0), (0, .ofNat 0, .ofNat 150), (0, .negSucc 2147483647, .ofNat 2147483647), (0, .negSucc 2147483647, .ofNat 2147483647), (0, .ofNat 0, .ofNat 8), (0, .negSucc 2147483647, .ofNat 2147483647)]), (1, 0, 10, .negSucc 2147483647, .ofNat 2147483647, []), (1, 0, 10, .ofNat 0, .ofNat 149, []), (1, 0, 10, .negSucc 2147483647, .ofNat 2147483647, []), (1, 0, 9, .negSucc 2147483647, .ofNat 2147483647, []), (1, 0, 150, .negSucc 2147483647, .ofNat 2147483647, []), (1, 0, 150, .negSucc 2147483647, .ofNat 2147483647, []), (0, 4, 0, .ofNat 0, .ofNat 0, [(1, .ofNat 56, .ofNat 0), (0, .ofNat 0, .ofNat 6), (1, .ofNat 57, .ofNat 0), (1, .ofNat 58, .ofNat 0), (0, .ofNat 0, .ofNat 6), (1, .ofNat 59, .ofNat 0), (1, .ofNat 60, .ofNat 0), (1, .ofNat 61, .ofNat 0), (1, .ofNat 62, .ofNat 0), (0, .negSucc 2147483647, .ofNat 2147483647), (0, .negSucc 2147483647, .ofNat 2147483647), (0, .negSucc 2147483647, .ofNat 2147483647)]), (1, 0, 6, .negSucc 2147483647, .ofNat 2147483647, []), (1, 0, 8, .negSucc 2147483647, .ofNat 2147483647, []), (1, 0, 6, .negSucc 2147483647, .ofNat 2147483647, []), (1, 0, 8, .ofNat 0, .ofNat 7, [])]
def cRT_3 : List cRt := [(1, 0, 8, .ofNat 0, .ofNat 7, []), (1, 0, 8, .negSucc 2147483647, .ofNat 2147483647, []), (1, 0, 6, .negSucc 2147483647, .ofNat 2147483647, []), (0, 3, 0, .ofNat 0, .ofNat 0, [(1, .ofNat 64, .ofNat 0), (0, .negSucc 2147483647, .ofNat 2147483647), (1, .ofNat 65, .ofNat 0)]), (1, 0, 48, .negSucc 2147483647, .ofNat 2147483647, []), (3, 5, 150, .ofNat 154, .ofNat 0, []), (0, 1, 0, .ofNat 0, .ofNat 0, [(1, .ofNat 67, .ofNat 0), (0, .ofNat 0, .ofNat 1000), (0, .negSucc 2147483647, .ofNat 2147483647), (0, .ofNat 0, .ofNat 7), (0, .negSucc 2147483647, .ofNat 2147483647)]), (1, 0, 24, .negSucc 2147483647, .ofNat 2147483647, []), (0, 9, 0, .ofNat 0, .ofNat 0, [(1, .ofNat 69, .ofNat 0), (1, .ofNat 70, .ofNat 0), (1, .ofNat 71, .ofNat 0)]), (1, 0, 6, .negSucc 0, .ofNat 5, []), (1, 0, 6, .ofNat 0, .ofNat 149, []), (2, 1, 360, .negSucc 9223372036854775807, .ofNat 9223372036854775807, []), (0, 12, 0, .ofNat 0, .ofNat 0, [(0, .negSucc 2147483647, .ofNat 2147483647), (0, .ofNat 0, .ofNat 3649), (0, .ofNat 0, .ofNat 150), (1, .ofNat 73, .ofNat 0), (1, .ofNat 74, .ofNat 0), (1, .ofNat 75, .ofNat 0), (1, .ofNat 76, .ofNat 0), (1, .ofNat 77, .ofNat 0), (1, .ofNat 78, .ofNat 0), (1, .ofNat 79, .ofNat 0), (1, .ofNat 80, .ofNat 0), (0, .ofNat 0, .ofNat 12), (1, .ofNat 81, .ofNat 0), (1, .ofNat 82, .ofNat 0), (0, .ofNat 0, .ofNat 200), (1, .ofNat 83, .ofNat 0), (1, .ofNat 84, .ofNat 0), (1, .ofNat 85, .ofNat 0), (1, .ofNat 86, .ofNat 0), (0, .ofNat 0, .ofNat 300), (1, .ofNat 87, .ofNat 0), (1, .ofNat 88, .ofNat 0), (1, .ofNat 89, .ofNat 0), (1, .ofNat 90, .ofNat 0), (1, .ofNat 91, .ofNat 0), (0, .ofNat 0, .ofNat 40), (1, .ofNat 92, .ofNat 0), (1, .ofNat 93, .ofNat 0), (1, .ofNat 94, .ofNat 0), (1, .ofNat 95, .ofNat 0), (1, .ofNat 96, .ofNat 0), (1, .ofNat 97, .ofNat 0), (0, .ofNat 0, .ofNat 200), (1, .ofNat 98, .ofNat 0), (1, .ofNat 99, .ofNat 0), (1, .ofNat 100, .ofNat 0), (1, .ofNat 101, .ofNat 0), (1, .ofNat 102, .ofNat 0), (0, .ofNat 0, .ofNat 1), (0, .negSucc 2147483647, .ofNat 2147483647), (1, .ofNat 103, .ofNat 0), (1, .ofNat 104, .ofNat 0), (1, .ofNat 105, .ofNat 0), (1, .ofNat 106, .ofNat 0), (1, .ofNat 107, .ofNat 0), (1, .ofNat 108, .ofNat 0), (1, .ofNat 109, .ofNat 0), (1, .ofNat 110, .ofNat 0), (1, .ofNat 111, .ofNat 0), (1, .ofNat 112, .ofNat 0), (1, .ofNat 113, .ofNat 0), (1, .ofNat 114, .ofNat 0), (0, .negSucc 2147483647, .ofNat 2147483647), (1, .ofNat 115, .ofNat 0), (0, .ofNat 0, .ofNat 160), (0, .ofNat 0, .ofNat 16), (1, .ofNat 116, .ofNat 0), (1, .ofNat 117, .ofNat 0), (1, .ofNat 118, .ofNat 0), (1, .ofNat 119, .ofNat 0), (1, .ofNat 120, .ofNat 0), (1, .ofNat 121, .ofNat 0), (1, .ofNat 122, .ofNat 0), (1, .ofNat 123, .ofNat 0), (0, .ofNat 0, .ofNat 160), (0, .negSucc 0, .ofNat 160), (0, .ofNat 0, .ofNat 8), (0, .ofNat 0, .ofNat 15), (0, .ofNat 0, .ofNat 170), (1, .ofNat 124, .ofNat 0), (1, .ofNat 125, .ofNat 0), (0, .negSucc 2147483647, .ofNat 2147483647), (1, .ofNat 126, .ofNat 0), (1, .ofNat 127, .ofNat 0), (1, .ofNat 128, .ofNat 0), (0, .negSucc 2147483647, .ofNat 2147483647), (1, .ofNat 129, .ofNat 0), (1, .ofNat 130, .ofNat 0), (1, .ofNat 131, .ofNat 0), (0, .ofNat 0, .ofNat 10), (1, .ofNat 132, .ofNat 0), (0, .negSucc 0, .ofNat 10), (1, .ofNat 133, .ofNat 0), (0, .negSucc 2147483647, .ofNat 2147483647), (0, .negSucc 0, .ofNat 9), (1, .ofNat 134, .ofNat 0), (1, .ofNat 135, .ofNat 0), (0, .ofNat 0, .ofNat 6), (1, .ofNat 136, .ofNat 0), (1, .ofNat 137, .ofNat 0), (1, .ofNat 138, .ofNat 0), (1, .ofNat 139, .ofNat 0), (1, .ofNat 140, .ofNat 0), (0, .negSucc 0, .ofNat 6), (0, .negSucc 2147483647, .ofNat 2147483647), (0, .ofNat 0, .ofNat 1000), (1, .ofNat 141, .ofNat 0), (1, .ofNat 142, .ofNat 0), (1, .ofNat 143, .ofNat 0), (1, .ofNat 144, .ofNat 0), (1, .ofNat 145, .ofNat 0)]), (1, 0, 150, .ofNat 0, .ofNat 7, []), (1, 0, 150, .ofNat 0, .ofNat 3, []), (1, 0, 150, .negSucc 2147483647, .ofNat 2147483647, []), (1, 0, 150, .negSucc 2147483647, .ofNat 2147483647, []), (1, 0, 150, .negSucc 2147483647, .ofNat 2147483647, []), (1, 0, 150, .negSucc 2147483647, .ofNat 2147483647, []), (1, 0, 150, .negSucc 2147483647, .ofNat 2147483647, [])]
def cRT_4 : List cRt := [(1, 0, 3600, .negSucc 2147483647, .ofNat 2147483647, []), (1, 0, 12, .negSucc 2147483647, .ofNat 2147483647, []), (1, 0, 12, .negSucc 2147483647, .ofNat 2147483647, []), (1, 0, 200, .negSucc 2147483647, .ofNat 2147483647, []), (1, 0, 200, .ofNat 0, .ofNat 149, []), (1, 0, 200, .negSucc 2147483647, .ofNat 2147483647, []), (1, 0, 200, .negSucc 2147483647, .ofNat 2147483647, []), (1, 0, 300, .ofNat 0, .ofNat 149, []), (1, 0, 300, .ofNat 0, .ofNat 149, []), (1, 0, 300, .ofNat 0, .ofNat 7, []), (1, 0, 300, .negSucc 2147483647, .ofNat 2147483647, []), (1, 0, 4, .negSucc 2147483647, .ofNat 2147483647, []), (1, 0, 40, .negSucc 2147483647, .ofNat 2147483647, []), (1, 0, 40, .negSucc 2147483647, .ofNat 2147483647, []), (1, 0, 40, .negSucc 2147483647, .ofNat 2147483647, []), (1, 0, 40, .negSucc 2147483647, .ofNat 2147483647, []), (1, 0, 40, .negSucc 2147483647, .ofNat 2147483647, []), (1, 0, 40, .negSucc 2147483647, .ofNat 2147483647, []), (1, 0, 200, .negSucc 2147483647, .ofNat 2147483647, []), (1, 0, 200, .negSucc 2147483647, .ofNat 2147483647, [])]
def cRT_5 : List cRt := [(1, 0, 200, .negSucc 2147483647, .ofNat 2147483647, []), (1, 0, 200, .negSucc 2147483647, .ofNat 2147483647, []), (1, 0, 200, .negSucc 2147483647, .ofNat 2147483647, []), (1, 2, 300, .ofNat 0, .ofNat 1, []), (1, 0, 300, .negSucc 2147483647, .ofNat 2147483647, []), (1, 0, 300, .negSucc 2147483647, .ofNat 2147483647, []), (1, 0, 300, .negSucc 2147483647, .ofNat 2147483647, []), (1, 0, 576, .negSucc 2147483647, .ofNat 2147483647, []), (1, 2, 576, .ofNat 0, .ofNat 1, []), (1, 2, 576, .ofNat 0, .ofNat 1, []), (1, 2, 576, .ofNat 0, .ofNat 1, []), (1, 0, 1500, .negSucc 2147483647, .ofNat 2147483647, []), (1, 0, 48, .negSucc 2147483647, .ofNat 2147483647, []), (1, 0, 9000, .negSucc 2147483647, .ofNat 2147483647, []), (1, 2, 9000, .ofNat 0, .ofNat 1, []), (1, 3, 160, .negSucc 127, .ofNat 127, []), (1, 0, 16, .negSucc 2147483647, .ofNat 2147483647, []), (1, 0, 16, .negSucc 2147483647, .ofNat 2147483647, []), (1, 0, 16, .negSucc 2147483647, .ofNat 2147483647, []), (1, 0, 17, .negSucc 2147483647, .ofNat 2147483647, [])]
def cRT_6 : List cRt := [(1, 0, 1530, .negSucc 2147483647, .ofNat 2147483647, []), (1, 0, 1530, .negSucc 2147483647, .ofNat 2147483647, []), (1, 0, 2890, .negSucc 2147483647, .ofNat 2147483647, []), (1, 0, 2890, .negSucc 2147483647, .ofNat 2147483647, []), (1, 0, 13, .negSucc 2147483647, .ofNat 2147483647, []), (1, 0, 170, .negSucc 2147483647, .ofNat 2147483647, []), (1, 0, 8, .negSucc 2147483647, .ofNat 2147483647, []), (1, 2, 150, .ofNat 0, .ofNat 1, []), (1, 0, 6, .negSucc 2147483647, .ofNat 2147483647, []), (1, 0, 1500, .negSucc 2147483647, .ofNat 2147483647, []), (2, 1, 150, .negSucc 9223372036854775807, .ofNat 9223372036854775807, []), (2, 1, 150, .negSucc 9223372036854775807, .ofNat 9223372036854775807, []), (1, 0, 10, .ofNat 0, .ofNat 149, []), (1, 0, 10, .negSucc 2147483647, .ofNat 2147483647, []), (1, 0, 9, .negSucc 2147483647, .ofNat 2147483647, []), (1, 2, 150, .ofNat 0, .ofNat 1, []), (1, 0, 6, .negSucc 2147483647, .ofNat 2147483647, []), (1, 0, 8, .negSucc 2147483647, .ofNat 2147483647, []), (1, 0, 6, .negSucc 2147483647, .ofNat 2147483647, []), (1, 0, 6, .negSucc 2147483647, .ofNat 2147483647, [])]
def cRT_7 : List cRt := [(1, 0, 8, .negSucc 2147483647, .ofNat 2147483647, []), (1, 0, 24, .negSucc 2147483647, .ofNat 2147483647, []), (1, 0, 6, .negSucc 5, .ofNat 149, []), (1, 0, 6, .ofNat 0, .ofNat 60, []), (2, 1, 360, .negSucc 9223372036854775807, .ofNat 9223372036854775807, []), (2, 1, 60, .negSucc 9223372036854775807, .ofNat 9223372036854775807, []), (0, 8, 0, .ofNat 0, .ofNat 0, [(1, .ofNat 1, .ofNat 0), (1, .ofNat 16, .ofNat 0), (0, .ofNat 0, .ofNat 9), (0, .negSucc 2147483647, .ofNat 2147483647), (0, .negSucc 2147483647, .ofNat 2147483647), (0, .ofNat 0, .ofNat 300), (1, .ofNat 147, .ofNat 0), (1, .ofNat 148, .ofNat 0), (1, .ofNat 149, .ofNat 0), (1, .ofNat 150, .ofNat 0), (1, .ofNat 151, .ofNat 0), (1, .ofNat 152, .ofNat 0), (1, .ofNat 153, .ofNat 0)]), (1, 0, 300, .ofNat 0, .ofNat 299, []), (1, 0, 300, .negSucc 2147483647, .ofNat 2147483647, []), (1, 0, 300, .negSucc 2147483647, .ofNat 2147483647, []), (1, 0, 24, .negSucc 2147483647, .ofNat 2147483647, []), (1, 0, 150, .negSucc 2147483647, .ofNat 2147483647, []), (1, 0, 150, .negSucc 2147483647, .ofNat 2147483647, []), (1, 0, 150, .negSucc 0, .ofNat 299, []), (1, 0, 60, .negSucc 2147483647, .ofNat 2147483647, [])]
def cRT : List cRt := cRT_0 ++ (cRT_1 ++ (cRT_2 ++ (cRT_3 ++ (cRT_4 ++ (cRT_5 ++ (cRT_6 ++ (cRT_7)))))))
def cJs (r f : Nat) : Bool := Nat.beq r 69 || Nat.beq r 70 || Nat.beq r 119 || Nat.beq r 120 || Nat.beq r 121 || Nat.beq r 122 || Nat.beq r 123 || (Nat.beq r 72 && Nat.beq f 55)
end
section
-- ===== the checker: an instruction, a run =====
def cix (K : cK) (p : Nat) (o : Int) (n : Nat) : Bool := cle 0 (clb K p + o) && cle (cub K p + o + 1) n
def cWn (W : List (Nat × Nat)) (r f : Nat) : Bool := W.any (fun t => Nat.beq t.1 r && Nat.beq t.2 f)
def cpI (st : List cW) (f : Nat → Int → List cW → Option (List cEx)) : Option (List cEx) := match st with
  | (1, p, o) :: r => f p o r
  | _ => none
def cpII (st : List cW) (f : Nat → Int → Nat → Int → List cW → Option (List cEx)) : Option (List cEx) := match st with
  | (1, q, s) :: (1, p, o) :: r => f p o q s r
  | _ => none
def cpJ (st : List cW) (f : Nat → Int → List cW → Option (List cEx)) : Option (List cEx) := match st with
  | (2, p, o) :: r => f p o r
  | _ => none
def cpJJ (st : List cW) (f : Nat → Int → Nat → Int → List cW → Option (List cEx)) : Option (List cEx) := match st with
  | (2, q, s) :: (2, p, o) :: r => f p o q s r
  | _ => none
def cit (b : Bool) (x : Option (List cEx)) : Option (List cEx) := bif b then x else none
def cRg (K : cK) (c : Nat) (f : Nat → cRt → Option (List cEx)) : Option (List cEx) := match creg K c with
  | some r => (match cRT[r]? with
    | some t => f r t
    | none => none)
  | none => none
def cld (K : cK) (c b : Nat) (ty : Nat × Int × Int) (k : cK → cW → Option (List cEx)) : Option (List cEx) := match K.2.2.2.2.1.find? (fun f => Nat.beq f.1 c && Nat.beq f.2.1 b) with
  | some f => k K f.2.2
  | none => match ty.1 with
    | 0 => k (K.1 ++ [(ty.2.1, ty.2.2)], K.2.1, K.2.2.1, K.2.2.2.1, (c, b, 1, K.1.length, 0) :: K.2.2.2.2.1, K.2.2.2.2.2) (1, K.1.length, 0)
    | 1 => bif Nat.blt ty.2.1.toNat 146 then k K (3, ty.2.1.toNat, 0) else k (K.1, K.2.1, K.2.2.1, K.2.2.2.1 ++ [ty.2.1.toNat], (c, b, 3, 1000 + K.2.2.2.1.length, 0) :: K.2.2.2.2.1, K.2.2.2.2.2) (3, 1000 + K.2.2.2.1.length, 0)
    | _ => none
def csF (K : cK) (r b : Nat) (c : Nat) (w : cW) : cK := (K.1, K.2.1, K.2.2.1, K.2.2.2.1, (c, b, w) :: K.2.2.2.2.1.filter (fun t => !(Nat.beq t.2.1 b && (match creg K t.1 with
    | some x => Nat.beq x r
    | none => true))), K.2.2.2.2.2)
def csA (K : cK) (r : Nat) (l : cAf) : cK := (K.1, K.2.1, K.2.2.1, K.2.2.2.1, K.2.2.2.2.1, K.2.2.2.2.2.1, l ++ K.2.2.2.2.2.2.filter (fun t => !(match creg K t.1 with
    | some x => Nat.beq x r
    | none => true)))
def cisZ (t : FieldType) : Nat := match t with
  | .int => 1
  | .boolean => 2
  | .object _ => 3
  | .array _ => 3
  | _ => 0
def cal (K : cK) (c p : Nat) (o : Int) (r : Nat) (t : cRt) (k : cK → Nat → Int → Option (List cEx)) : Option (List cEx) := match K.2.2.2.2.2.2.find? (fun a => Nat.beq a.1 c && Nat.beq a.2.1 p && ceI a.2.2.1 o) with
  | some a => k K a.2.2.2.1 a.2.2.2.2
  | none => k (K.1 ++ [(t.2.2.2.1, bif Nat.beq r 70 && K.2.2.2.2.2.2.any (fun a => Nat.beq a.1 69 && Nat.beq a.2.1 p && ceI a.2.2.1 o && cle 0 (clb K a.2.2.2.1 + a.2.2.2.2) && cle (cub K a.2.2.2.1 + a.2.2.2.2) 4) then 60 else t.2.2.2.2.1)], K.2.1, K.2.2.1, K.2.2.2.1, K.2.2.2.2.1, K.2.2.2.2.2.1, (c, p, o, K.1.length, 0) :: K.2.2.2.2.2.2) K.1.length 0
def ctsw (p : Nat) (o : Int) (k : Int → cK → Option (List cEx)) (d : Int) : Int → List Int → cK → Option (List cEx)
  | _, [], K => k d K
  | lo, a :: r, K => cap (cbr (cneq K p o 0 lo) (k a)) (cbr (cnne K p o 0 lo) (fun K' => ctsw p o k d (lo + 1) r K'))
def clsw (p : Nat) (o : Int) (k : Int → cK → Option (List cEx)) (d : Int) : List (Int × Int) → cK → Option (List cEx)
  | [], K => k d K
  | a :: r, K => cap (cbr (cneq K p o 0 a.1) (k a.2)) (cbr (cnne K p o 0 a.1) (fun K' => clsw p o k d r K'))
def c31 (a : Nat) : Int := bif Nat.blt a 2147483648 then (a : Int) else (a : Int) - 4294967296
def c63 (a : Nat) : Int := bif Nat.blt a 9223372036854775808 then (a : Int) else (a : Int) - 18446744073709551616
def cld1 (L : List cW) (z : Nat) (g : Nat) (k : cW → Option (List cEx)) : Option (List cEx) := bif Nat.beq (cG L z).1 g then k (cG L z) else none
def cldA (L : List cW) (z : Nat) (k : cW → Option (List cEx)) : Option (List cEx) := match (cG L z).1 with
  | 3 => k (cG L z)
  | 4 => k (cG L z)
  | 5 => k (cG L z)
  | 6 => k (cG L z)
  | _ => none
def cstA (L st : List cW) (z : Nat) (k : List cW → List cW → Option (List cEx)) : Option (List cEx) := match st with
  | (3, c, _) :: r => cit (Nat.blt z L.length) (k (cS1 L z (3, c, 0)) r)
  | (4, _, _) :: r => cit (Nat.blt z L.length) (k (cS1 L z (4, 0, 0)) r)
  | (6, c, _) :: r => cit (Nat.blt z L.length) (k (cS1 L z (6, c, 0)) r)
  | _ => none
def cX1 (W : List (Nat × Nat)) (k : Nat → List cW → List cW → cK → Option (List cEx)) (i : aI) (L st : List cW) (K : cK) : Option (List cEx) := match i.2.1 with
  | .aconst_null => k (i.1 + 1) L ((4, 0, 0) :: st) K
  | .iconst z => cit (cle (-128) z && cle z 127) (k (i.1 + 1) L ((1, 0, z) :: st) K)
  | .bipush z => cit (cle (-128) z && cle z 127) (k (i.1 + 2) L ((1, 0, z) :: st) K)
  | .sipush z => cit (cle (-32768) z && cle z 32767) (k (i.1 + 3) L ((1, 0, z) :: st) K)
  | .lconst z => k (i.1 + 1) L ((2, 0, ((z : Nat) : Int)) :: st) K
  | .ldc _ => bif Nat.beq i.2.2.2.1 4294967296 then k (i.1 + 2) L ((7, 0, 0) :: st) K else cit (Nat.blt i.2.2.2.1 4294967296) (k (i.1 + 2) L ((1, 0, c31 i.2.2.2.1) :: st) K)
  | .ldc_w _ => cit (Nat.blt i.2.2.2.1 4294967296) (k (i.1 + 3) L ((1, 0, c31 i.2.2.2.1) :: st) K)
  | .ldc2_w _ => cit (Nat.blt i.2.2.2.1 18446744073709551616) (k (i.1 + 3) L ((2, 0, c63 i.2.2.2.1) :: st) K)
  | .iload_n z => cld1 L z 1 fun w => k (i.1 + 1) L (w :: st) K
  | .iload z => cld1 L z 1 fun w => k (i.1 + 2) L (w :: st) K
  | .lload_n z => cld1 L z 2 fun w => k (i.1 + 1) L (w :: st) K
  | .lload z => cld1 L z 2 fun w => k (i.1 + 2) L (w :: st) K
  | .aload_n z => cldA L z fun w => k (i.1 + 1) L (w :: st) K
  | .aload z => cldA L z fun w => k (i.1 + 2) L (w :: st) K
  | .istore_n z => cpI st fun p o r => cit (Nat.blt z L.length) (k (i.1 + 1) (cS1 L z (1, p, o)) r K)
  | .istore z => cpI st fun p o r => cit (Nat.blt z L.length) (k (i.1 + 2) (cS1 L z (1, p, o)) r K)
  | .lstore_n z => cpJ st fun p o r => cit (Nat.blt (z + 1) L.length) (k (i.1 + 1) (cS2 L z (2, p, o)) r K)
  | .lstore z => cpJ st fun p o r => cit (Nat.blt (z + 1) L.length) (k (i.1 + 2) (cS2 L z (2, p, o)) r K)
  | .astore_n z => cstA L st z fun L' r => k (i.1 + 1) L' r K
  | .astore z => cstA L st z fun L' r => k (i.1 + 2) L' r K
  | .iinc z c => cld1 L z 1 fun w => cit (cle (-32768) c && cle c 32767) (cadd' cM32 K w.2.1 w.2.2 0 c fun K' p o => k (i.1 + 3) (cS1 L z (1, p, o)) st K')
  | .iadd => cpII st fun p o q s r => cadd' cM32 K p o q s fun K' z x => k (i.1 + 1) L ((1, z, x) :: r) K'
  | .isub => cpII st fun p o q s r => csub cM32 K p o q s fun K' z x => k (i.1 + 1) L ((1, z, x) :: r) K'
  | .imul => cpII st fun p o q s r => cfr K (let m := cmulr (clo K p o) (chi K p o) (clo K q s) (chi K q s); cfit cM32 m.1 m.2) fun K' z => k (i.1 + 1) L ((1, z, 0) :: r) K'
  | .iand => cpII st fun p o q s r => bif cle 0 (clo K p o) && cle 0 (clo K q s) then
      k (i.1 + 1) L ((1, K.1.length, 0) :: r) (K.1 ++ [(0, cmn (chi K p o) (chi K q s))], (bif Nat.beq p 0 then [] else [(K.1.length, p, o)]) ++ ((bif Nat.beq q 0 then [] else [(K.1.length, q, s)]) ++ K.2.1), K.2.2)
    else cfr K (candr (clo K p o) (chi K p o) (clo K q s) (chi K q s)) fun K' z => k (i.1 + 1) L ((1, z, 0) :: r) K'
  | .ior => cpII st fun _ _ _ _ r => cfr K (-cM32, cM32 - 1) fun K' z => k (i.1 + 1) L ((1, z, 0) :: r) K'
  | .ixor => cpII st fun _ _ _ _ r => cfr K (-cM32, cM32 - 1) fun K' z => k (i.1 + 1) L ((1, z, 0) :: r) K'
  | .ishl => cpII st fun _ _ _ _ r => cfr K (-cM32, cM32 - 1) fun K' z => k (i.1 + 1) L ((1, z, 0) :: r) K'
  | .ishr => cpII st fun _ _ _ _ r => cfr K (-cM32, cM32 - 1) fun K' z => k (i.1 + 1) L ((1, z, 0) :: r) K'
  | .iushr => cpII st fun _ _ q s r => cfr K (bif cle 1 (clo K q s) && cle (chi K q s) 31 then (0, cM32 - 1) else (-cM32, cM32 - 1)) fun K' z => k (i.1 + 1) L ((1, z, 0) :: r) K'
  | .idiv => cpII st fun p o q s r => cit (cnz K q s) (cfr K (cdivr cM32 (clo K p o) (chi K p o) (clo K q s) (chi K q s)) fun K' z => k (i.1 + 1) L ((1, z, 0) :: r) K')
  | .irem => cpII st fun p o q s r => cit (cnz K q s) (cfr K (cremr cM32 (clo K p o) (chi K p o) (clo K q s) (chi K q s)) fun K' z => k (i.1 + 1) L ((1, z, 0) :: r) K')
  | .ineg => cpI st fun p o r => cfr K (cfit cM32 (-(chi K p o)) (-(clo K p o))) fun K' z => k (i.1 + 1) L ((1, z, 0) :: r) K'
  | .ladd => cpJJ st fun p o q s r => cadd' cM64 K p o q s fun K' z x => k (i.1 + 1) L ((2, z, x) :: r) K'
  | .lsub => cpJJ st fun p o q s r => csub cM64 K p o q s fun K' z x => k (i.1 + 1) L ((2, z, x) :: r) K'
  | .lmul => cpJJ st fun p o q s r => cfr K (let m := cmulr (clo K p o) (chi K p o) (clo K q s) (chi K q s); cfit cM64 m.1 m.2) fun K' z => k (i.1 + 1) L ((2, z, 0) :: r) K'
  | .ldiv => cpJJ st fun p o q s r => cit (cnz K q s) (cfr K (cdivr cM64 (clo K p o) (chi K p o) (clo K q s) (chi K q s)) fun K' z => k (i.1 + 1) L ((2, z, 0) :: r) K')
  | .lrem => cpJJ st fun p o q s r => cit (cnz K q s) (cfr K (cremr cM64 (clo K p o) (chi K p o) (clo K q s) (chi K q s)) fun K' z => k (i.1 + 1) L ((2, z, 0) :: r) K')
  | .i2l => cpI st fun p o r => k (i.1 + 1) L ((2, p, o) :: r) K
  | .l2i => cpJ st fun p o r => bif cin cM32 (clo K p o) (chi K p o) then k (i.1 + 1) L ((1, p, o) :: r) K else cfr K (-cM32, cM32 - 1) fun K' z => k (i.1 + 1) L ((1, z, 0) :: r) K'
  | .i2b => cpI st fun p o r => bif cin 128 (clo K p o) (chi K p o) then k (i.1 + 1) L ((1, p, o) :: r) K else cfr K (-128, 127) fun K' z => k (i.1 + 1) L ((1, z, 0) :: r) K'
  | .i2s => cpI st fun p o r => bif cin 32768 (clo K p o) (chi K p o) then k (i.1 + 1) L ((1, p, o) :: r) K else cfr K (-32768, 32767) fun K' z => k (i.1 + 1) L ((1, z, 0) :: r) K'
  | .i2c => cpI st fun p o r => bif cle 0 (clo K p o) && cle (chi K p o) 65535 then k (i.1 + 1) L ((1, p, o) :: r) K else cfr K (0, 65535) fun K' z => k (i.1 + 1) L ((1, z, 0) :: r) K'
  | .dup => (match st with
    | w :: r => bif Nat.beq w.1 2 then none else k (i.1 + 1) L (w :: w :: r) K
    | [] => none)
  | .dup2 => (match st with
    | v :: w :: r => bif Nat.beq v.1 2 || Nat.beq w.1 2 then none else k (i.1 + 1) L (v :: w :: v :: w :: r) K
    | _ => none)
  | .pop => (match st with
    | w :: r => bif Nat.beq w.1 2 then none else k (i.1 + 1) L r K
    | [] => none)
  | .goto _ => k i.2.2.2.1 L st K
  | .ifCond c _ => cpI st fun p o r => ccmp c K p o 0 0 (k i.2.2.2.1 L r) (k (i.1 + 3) L r)
  | .if_icmp c _ => cpII st fun p o q s r => ccmp c K p o q s (k i.2.2.2.1 L r) (k (i.1 + 3) L r)
  | .ifnull _ => (match st with
    | (3, _, _) :: r => k (i.1 + 3) L r K
    | (4, _, _) :: r => k i.2.2.2.1 L r K
    | _ => none)
  | .ifnonnull _ => (match st with
    | (3, _, _) :: r => k i.2.2.2.1 L r K
    | (4, _, _) :: r => k (i.1 + 3) L r K
    | _ => none)
  | .tableswitch d lo _ offs => cit (cle (-2147483648) lo && cle (lo + (offs.toList.length : Int)) 2147483647) <| cpI st fun p o r => ctsw p o (fun a K' => k ((i.1 : Int) + a).toNat L r K') d lo offs.toList K
  | .lookupswitch d ps => cit (ps.toList.all (fun a => cle (-2147483648) a.1 && cle a.1 2147483647)) <| cpI st fun p o r => clsw p o (fun a K' => k ((i.1 : Int) + a).toNat L r K') d ps.toList K
  | .getfield _ => (match st with
    | (3, c, _) :: r => cRg K c fun _ t => cit (Nat.beq t.1 0 && Nat.beq t.2.1 i.2.2.2.1) (match t.2.2.2.2.2[i.2.2.2.2]? with
      | some ty => (match ty.1 with
        | 4 => cit (Nat.blt ty.2.1.toNat 146 && Nat.blt ty.2.2.toNat 146) (cap (k (i.1 + 3) L ((3, ty.2.1.toNat, 0) :: r) K) (k (i.1 + 3) L ((3, ty.2.2.toNat, 0) :: r) K))
        | _ => cld K c i.2.2.2.2 ty fun K' w => k (i.1 + 3) L (w :: r) K')
      | none => none)
    | _ => none)
  | .putfield _ => (match st with
    | v :: (3, c, _) :: r => cRg K c fun g t => cit (Nat.beq t.1 0 && Nat.beq t.2.1 i.2.2.2.1 && !((zT i.2.2.2.1 i.2.2.2.2).2.2.2) && cWn W g i.2.2.2.2 && !(cJs g i.2.2.2.2)) (match t.2.2.2.2.2[i.2.2.2.2]? with
      | some ty => (match ty.1 with
        | 0 => cit (Nat.beq v.1 1 && cle ty.2.1 (clo K v.2.1 v.2.2) && cle (chi K v.2.1 v.2.2) ty.2.2 && (match cisZ (zY i.2.2.2.1 i.2.2.2.2) with
          | 1 => true
          | 2 => cle 0 (clo K v.2.1 v.2.2) && cle (chi K v.2.1 v.2.2) 1
          | _ => false)) (k (i.1 + 3) L r (csF K g i.2.2.2.2 c v))
        | 4 => cit (Nat.beq v.1 3 && (Nat.beq v.2.1 ty.2.1.toNat || Nat.beq v.2.1 ty.2.2.toNat) && Nat.blt v.2.1 146 && Nat.beq (cisZ (zY i.2.2.2.1 i.2.2.2.2)) 3) (k (i.1 + 3) L r (K.1, K.2.1, K.2.2.1, K.2.2.2.1, K.2.2.2.2.1.filter (fun t => !(Nat.beq t.2.1 i.2.2.2.2)), K.2.2.2.2.2))
        | _ => none)
      | none => none)
    | _ => none)
  | .getstatic _ => k (i.1 + 3) L ((5, 0, 0) :: st) K
  | .arraylength => (match st with
    | (3, c, _) :: r => cRg K c fun _ t => cit (Nat.beq t.1 2 || (Nat.beq t.1 1 && Nat.beq t.2.1 0)) (cit (Nat.blt t.2.2.1 2147483648) (k (i.1 + 1) L ((1, 0, (t.2.2.1 : Int)) :: r) K))
    | _ => none)
  | .iaload => (match st with
    | (1, p, o) :: (3, c, _) :: r => cRg K c fun g t => cit (Nat.beq t.1 1 && Nat.beq t.2.1 0 && cix K p o t.2.2.1) (cal K c p o g t fun K' q s => k (i.1 + 1) L ((1, q, s) :: r) K')
    | (1, p, o) :: (5, 0, _) :: r => cit (cix K p o 8) (cfr K (-1, 4) fun K' z => k (i.1 + 1) L ((1, z, 0) :: r) K')
    | _ => none)
  | .baload => (match st with
    | (1, p, o) :: (3, c, _) :: r => cRg K c fun g t => cit (Nat.beq t.1 1 && (Nat.beq t.2.1 2 || Nat.beq t.2.1 3) && cix K p o t.2.2.1) (cal K c p o g t fun K' q s => k (i.1 + 1) L ((1, q, s) :: r) K')
    | _ => none)
  | .laload => (match st with
    | (1, p, o) :: (3, c, _) :: r => cRg K c fun _ t => cit (Nat.beq t.1 2 && cix K p o t.2.2.1) (cfr K (t.2.2.2.1, t.2.2.2.2.1) fun K' z => k (i.1 + 1) L ((2, z, 0) :: r) K')
    | _ => none)
  | .aaload => (match st with
    | (1, p, o) :: (3, c, _) :: r => cRg K c fun _ t => cit (Nat.beq t.1 3 && (Nat.beq t.2.1 4 || Nat.beq t.2.1 5) && cix K p o t.2.2.1) (cap (k (i.1 + 1) L ((4, 0, 0) :: r) K) (k (i.1 + 1) L ((3, 1000 + K.2.2.2.1.length, 0) :: r) (K.1, K.2.1, K.2.2.1, K.2.2.2.1 ++ [t.2.2.2.1.toNat], K.2.2.2.2)))
    | _ => none)
  | .iastore => (match st with
    | (1, q, s) :: (1, p, o) :: (3, c, _) :: r => cRg K c fun g t => cit (Nat.beq t.1 1 && Nat.beq t.2.1 0 && cix K p o t.2.2.1 && cWn W g 0 && !(cJs g 0) && cle t.2.2.2.1 (clo K q s) && cle (chi K q s) t.2.2.2.2.1) (k (i.1 + 1) L r (csA K g [(c, p, o, q, s)]))
    | _ => none)
  | .bastore => (match st with
    | (1, q, s) :: (1, p, o) :: (3, c, _) :: r => cRg K c fun g t => cit (Nat.beq t.1 1 && cix K p o t.2.2.1 && cWn W g 0 && !(cJs g 0) && cle t.2.2.2.1 (clo K q s) && cle (chi K q s) t.2.2.2.2.1 && (match t.2.1 with
        | 2 => cle 0 (clo K q s) && cle (chi K q s) 1
        | 3 => cle (-128) (clo K q s) && cle (chi K q s) 127
        | _ => false)) (k (i.1 + 1) L r (csA K g (bif Nat.beq t.2.1 2 then [(c, p, o, q, s)] else [])))
    | _ => none)
  | .lastore => (match st with
    | (2, q, s) :: (1, p, o) :: (3, c, _) :: r => cRg K c fun g t => cit (Nat.beq t.1 2 && cix K p o t.2.2.1 && cWn W g 0 && !(cJs g 0) && cle t.2.2.2.1 (clo K q s) && cle (chi K q s) t.2.2.2.2.1) (k (i.1 + 1) L r (csA K g []))
    | _ => none)
  | _ => none
end
section
-- ===== the checker: calls, cuts, runs =====
def cf1 (t w : cW) (a : List (Option (Nat × Int)) × List (Option Nat)) : List (Option (Nat × Int)) × List (Option Nat) := match t.1 with
  | 1 => (match a.1[t.2.1]? with
    | some none => (bif Nat.beq w.1 1 then a.1.set t.2.1 (some (w.2.1, w.2.2 - t.2.2)) else a.1, a.2)
    | _ => a)
  | 2 => (match a.1[t.2.1]? with
    | some none => (bif Nat.beq w.1 2 then a.1.set t.2.1 (some (w.2.1, w.2.2 - t.2.2)) else a.1, a.2)
    | _ => a)
  | 3 => (match a.2[t.2.1 - 1000]? with
    | some none => bif Nat.blt t.2.1 1000 then a else (a.1, a.2.set (t.2.1 - 1000) (some w.2.1))
    | _ => a)
  | 6 => (match a.2[t.2.1 - 1000]? with
    | some none => bif Nat.blt t.2.1 1000 then a else (a.1, a.2.set (t.2.1 - 1000) (some w.2.1))
    | _ => a)
  | _ => a
def cfl : List cW → List cW → List (Option (Nat × Int)) × List (Option Nat) → List (Option (Nat × Int)) × List (Option Nat)
  | t :: r, w :: s, a => cfl r s (cf1 t w a)
  | _, _, a => a
def cnuO (nu : List (Option Nat)) (c : Nat) : Nat := bif Nat.blt c 1000 then c else match nu[c - 1000]? with
  | some (some x) => x
  | _ => c
def cff {α : Type} (k : cK → List (Option (Nat × Int)) × List (Option Nat) → Option α) : List (Nat × Nat × cW) → cK → List (Option (Nat × Int)) × List (Option Nat) → Option α
  | [], K, a => k K a
  | f :: r, K, a => match K.2.2.2.2.1.find? (fun g => Nat.beq g.1 (cnuO a.2 f.1) && Nat.beq g.2.1 f.2.1) with
    | some g => cff k r K (cf1 f.2.2 g.2.2 a)
    | none => match creg K (cnuO a.2 f.1) with
      | some g => (match cRT[g]? with
        | some t => bif Nat.beq t.1 0 then (match t.2.2.2.2.2[f.2.1]? with
          | some ty => bif Nat.beq ty.1 0 then cff k r (K.1 ++ [(ty.2.1, ty.2.2)], K.2.1, K.2.2.1, K.2.2.2.1, (cnuO a.2 f.1, f.2.1, 1, K.1.length, 0) :: K.2.2.2.2.1, K.2.2.2.2.2) (cf1 f.2.2 (1, K.1.length, 0) a) else none
          | none => none) else none
        | none => none)
      | none => none
def cfm (V : cV) (mu : List (Option (Nat × Int))) : List (Nat × Int) := mu.map (fun m => match m with
  | some x => x
  | none => (0, 0))
def cfn (nu : List (Option Nat)) : List Nat := nu.map (fun m => match m with
  | some x => x
  | none => 0)
def cf0 (T : cT) : List (Option (Nat × Int)) × List (Option Nat) := ((match T.2.2.1 with
  | [] => []
  | _ :: r => some (0, 0) :: r.map (fun _ => none)), T.2.2.2.2.2.1.map (fun _ => none))
def cent {α : Type} (T : cT) (L St : List cW) (K : cK) (k : cK → List (Nat × Int) → List Nat → Option α) : Option α :=
  cff (fun K' a => bif cver T L St K' (cfm K'.1 a.1) (cfn a.2) then k K' (cfm K'.1 a.1) (cfn a.2) else none) T.2.2.2.2.2.2.1 K (cfl T.2.1 St (cfl T.1 L (cf0 T)))
-- what stands behind a call
def csv (b p : Nat) : Nat := bif Nat.beq p 0 then 0 else b + p - 1
def csc (b c : Nat) : Nat := bif Nat.blt c 1000 then c else c + b
def csw (b rb : Nat) (w : cW) : cW := match w.1 with
  | 1 => (1, csv b w.2.1, w.2.2)
  | 2 => (2, csv b w.2.1, w.2.2)
  | 3 => (3, csc rb w.2.1, 0)
  | 6 => (6, csc rb w.2.1, 0)
  | _ => w
def cki (K : cK) (W : List (Nat × Nat)) (c f : Nat) : Bool := match creg K c with
  | some r => !(cWn W r f)
  | none => false
def caft (K P : cK) (W : List (Nat × Nat)) : cK :=
  (K.1 ++ P.1.tail, P.2.1.map (fun t => (csv K.1.length t.1, csv K.1.length t.2.1, t.2.2)) ++ K.2.1, P.2.2.1.map (fun t => (csv K.1.length t.1, t.2)) ++ K.2.2.1,
    K.2.2.2.1 ++ P.2.2.2.1, P.2.2.2.2.1.map (fun t => (csc K.2.2.2.1.length t.1, t.2.1, csw K.1.length K.2.2.2.1.length t.2.2)) ++ K.2.2.2.2.1.filter (fun t => cki K W t.1 t.2.1),
    K.2.2.2.2.2.1, K.2.2.2.2.2.2.filter (fun t => cki K W t.1 0))
def call' (K : cK) (W : List (Nat × Nat)) (k : List cW → cK → Option (List cEx)) : List cT → Option (List cEx)
  | [] => some []
  | P :: r => cap (k (P.2.1.map (csw K.1.length K.2.2.2.1.length)) (caft K P.2.2 W)) (call' K W k r)
def cexs (k : List cW → cK → Option (List cEx)) : List cEx → Option (List cEx)
  | [] => some []
  | e :: r => cap (k e.1 e.2) (cexs k r)
-- ranks
def clin (K : cK) : List (Int × Nat) → Int
  | [] => 0
  | t :: r => (bif cle 0 t.1 then t.1 * cub K t.2 else t.1 * clb K t.2) + clin K r
def cins (a : Int) (p : Nat) : List (Int × Nat) → List (Int × Nat)
  | [] => [(a, p)]
  | t :: r => bif Nat.beq t.2 p then (t.1 + a, p) :: r else t :: cins a p r
def cmrg (l m : List (Int × Nat)) : List (Int × Nat) := l.foldr (fun t s => cins t.1 t.2 s) m
def cnz' (l : List (Int × Nat)) : List (Int × Nat) := l.filter (fun t => !(ceI t.1 0) && !(Nat.beq t.2 0))
def cdfB (K : cK) (p q : Nat) : Int := K.2.1.foldr (fun t m => bif Nat.beq t.1 p && Nat.beq t.2.1 q then cmn m t.2.2 else m) (cub K p - clb K q)
def club (K : cK) (l : List (Int × Nat)) : Int := match l with
  | [(a, p), (b, q)] => bif ceI (a + b) 0 then (bif cle 0 a then a * cdfB K p q else b * cdfB K q p) else clin K l
  | _ => clin K l
def cmu (mu : List (Nat × Int)) (p : Nat) : Nat × Int := match mu[p]? with
  | some m => m
  | none => (0, 0)
def crk (K : cK) (mu : List (Nat × Int)) (s t : cRk) : Bool :=
  let l := t.2.map (fun z => (z.1, cmu mu z.2))
  t.2.all (fun z => Nat.blt z.2 mu.length) && cle (club K (cnz' (cmrg (l.map (fun z => (z.1, z.2.1))) (cmrg (s.2.map (fun z => (-z.1, z.2))) []))) + (l.foldr (fun z m => z.1 * z.2.2 + m) (t.1 - s.1)) + 1) 0
abbrev cQ : Type := List cC × List (List Nat) × Nat × List (Nat × Nat) × List (Nat × cT × cRk) × Option cRk
def ccut (Q : cQ) (pc : Nat) (L St : List cW) (K : cK) : Option (Option (List cEx)) := match Q.2.2.2.2.1.find? (fun c => Nat.beq c.1 pc) with
  | none => none
  | some c => some (cent c.2.1 L St K (fun K' mu _ => match Q.2.2.2.2.2 with
    | none => some []
    | some s => bif crk K' mu s c.2.2 then some [] else none))
def ctry (Q : cQ) (lv : Nat) (L : List cW) (K : cK) (k : List cW → cK → Option (List cEx)) : List Nat → Option (List cEx)
  | [] => none
  | j :: r => match Q.1[j]? with
    | some C => bif Nat.blt j Q.2.2.1 && Nat.ble C.2.1 lv && C.2.2.1.all (fun w => cWn Q.2.2.2.1 w.1 w.2) then
        (match cent C.2.2.2.1 L [] K (fun K' _ _ => call' K' C.2.2.1 k C.2.2.2.2.1) with
        | some x => some x
        | none => ctry Q lv L K k r)
      else ctry Q lv L K k r
    | none => none
def cretI (ret : Option FieldType) (K : cK) (p : Nat) (o : Int) : Bool := match ret with
  | some .int => true
  | some .boolean => cle 0 (clo K p o) && cle (chi K p o) 1
  | _ => false
def cmath (a : Nat) (K : cK) (st : List cW) (k : List cW → cK → Option (List cEx)) : Option (List cEx) := match a with
  | 1010 => cpII st fun p o q s r => cit (Nat.ble (cws r) 8) (cfr K (cmx (clo K p o) (clo K q s), cmx (chi K p o) (chi K q s)) fun K' z => k ((1, z, 0) :: r) K')
  | 1011 => cpII st fun p o q s r => cit (Nat.ble (cws r) 8) (cfr K (cmn (clo K p o) (clo K q s), cmn (chi K p o) (chi K q s)) fun K' z => k ((1, z, 0) :: r) K')
  | 1012 => cpI st fun p o r => cit (Nat.ble (cws r) 8) (bif cle 0 (clo K p o) then k ((1, p, o) :: r) K else cfr K (-cM32, cM32 - 1) fun K' z => k ((1, z, 0) :: r) K')
  | 1013 => cpJJ st fun p o q s r => cit (Nat.ble (cws r) 8) (cfr K (cmx (clo K p o) (clo K q s), cmx (chi K p o) (chi K q s)) fun K' z => k ((2, z, 0) :: r) K')
  | 1014 => cpJJ st fun p o q s r => cit (Nat.ble (cws r) 8) (cfr K (cmn (clo K p o) (clo K q s), cmn (chi K p o) (chi K q s)) fun K' z => k ((2, z, 0) :: r) K')
  | _ => none
def cixo (lv : Nat) (K : cK) (st : List cW) (k : List cW → cK → Option (List cEx)) : Option (List cEx) := match st with
  | (1, _, _) :: (7, _, _) :: r => cit (Nat.ble 4 lv && Nat.ble (cws r) 8) (cfr K (-1, 12) fun K' z => k ((1, z, 0) :: r) K')
  | _ => none
def ccopy (W : List (Nat × Nat)) (K : cK) (st : List cW) (k : List cW → cK → Option (List cEx)) : Option (List cEx) := match st with
  | (1, n, no) :: (1, d, dO) :: (3, c, _) :: (1, s, so) :: (3, c0, _) :: r => cit (Nat.ble (cws r) 8) (cRg K c0 fun _ t0 => cRg K c fun g t =>
      cit (((Nat.beq t0.1 2 && Nat.beq t.1 2) || (Nat.beq t0.1 1 && Nat.beq t.1 1 && Nat.beq t0.2.1 3 && Nat.beq t.2.1 3 && cle (-128) t0.2.2.2.1 && cle t0.2.2.2.2.1 127) || (Nat.beq t0.1 1 && Nat.beq t.1 1 && Nat.beq t0.2.1 0 && Nat.beq t.2.1 0)) &&
        cle t.2.2.2.1 t0.2.2.2.1 && cle t0.2.2.2.2.1 t.2.2.2.2.1 && cle 0 (clo K n no) && cle 0 (clo K d dO) && cle 0 (clo K s so) && cle (chi K s so + chi K n no) t0.2.2.1 && cle (chi K d dO + chi K n no) t.2.2.1 && cWn W g 0 && !(cJs g 0))
        (k r (csA K g [])))
  | _ => none
def cgo (Q : cQ) (top : Bool) (pc : Nat) (L St : List cW) (K : cK) (r : Option (List cEx)) : Option (List cEx) := bif top then (match ccut Q pc L St K with
  | none => r
  | some x => x) else r
def cx (Q : cQ) : Nat → Nat → Bool → aM → Nat → List cW → List cW → cK → Option (List cEx)
  | 0, _, _, _, _, _, _, _ => none
  | n + 1, lv, top, M, pc, L, st, K => match aF pc M.2.2.2.2.2.2.2 with
    | none => none
    | some i => match i.2.1 with
      | .ireturn => (match st with
        | [(1, p, o)] => cit (cretI M.2.2.2.2.1 K p o) (some [([(1, p, o)], K)])
        | _ => none)
      | .lreturn => (match st, M.2.2.2.2.1 with
        | [(2, p, o)], some .long => some [([(2, p, o)], K)]
        | _, _ => none)
      | .return_ => (match st, M.2.2.2.2.1 with
        | [], none => some [([], K)]
        | _, _ => none)
      | .lcmp => (match aF (i.1 + 1) M.2.2.2.2.2.2.2 with
        | some j => (match j.2.1 with
          | .ifCond c _ => cpJJ st fun p o q s r => ccmp c K p o q s (fun K' => cgo Q top j.2.2.2.1 L r K' (cx Q n lv top M j.2.2.2.1 L r K')) (fun K' => cgo Q top (i.1 + 4) L r K' (cx Q n lv top M (i.1 + 4) L r K'))
          | _ => none)
        | none => none)
      | .invokestatic _ => (match lv with
        | 0 => none
        | lv' + 1 => bif Nat.beq i.2.2.2.1 1002 then ccopy Q.2.2.2.1 K st (fun st' K' => cgo Q top (i.1 + 3) L st' K' (cx Q n lv top M (i.1 + 3) L st' K')) else bif Nat.ble 1010 i.2.2.2.1 then cmath i.2.2.2.1 K st (fun st' K' => cgo Q top (i.1 + 3) L st' K' (cx Q n lv top M (i.1 + 3) L st' K')) else (match zmt[i.2.2.2.1]? with
          | some Y => cit (Nat.beq Y.2.2.2.2.2.2.1 1 && Nat.ble Y.2.2.2.2.2.1 st.length && Nat.ble (cws (st.take Y.2.2.2.2.2.1)) Y.2.2.2.1 && Nat.ble (cws (st.drop Y.2.2.2.2.2.1)) 8)
              (match Q.2.1[i.2.2.2.1]? with
              | some (j :: js) => ctry Q lv' (cEn Y.2.2.2.1 (st.take Y.2.2.2.2.2.1).reverse) K (fun rt K' => cgo Q top (i.1 + 3) L (rt ++ st.drop Y.2.2.2.2.2.1) K' (cx Q n lv top M (i.1 + 3) L (rt ++ st.drop Y.2.2.2.2.2.1) K')) (j :: js)
              | _ => (match cx Q n lv' false Y 0 (cEn Y.2.2.2.1 (st.take Y.2.2.2.2.2.1).reverse) [] K with
                | some es => cexs (fun rt K' => cgo Q top (i.1 + 3) L (rt ++ st.drop Y.2.2.2.2.2.1) K' (cx Q n lv top M (i.1 + 3) L (rt ++ st.drop Y.2.2.2.2.2.1) K')) es
                | none => none))
          | none => none))
      | .invokevirtual _ => (match lv with
        | 0 => none
        | lv' + 1 => bif Nat.beq i.2.2.2.1 1001 then cixo lv' K st (fun st' K' => cgo Q top (i.1 + 3) L st' K' (cx Q n lv top M (i.1 + 3) L st' K')) else (match zmt[i.2.2.2.1]? with
          | some Y => cit (Nat.beq Y.2.2.2.2.2.2.1 0 && Nat.ble Y.2.2.2.2.2.1 st.length) (match st.drop Y.2.2.2.2.2.1 with
            | (3, c, _) :: r => cRg K c fun _ t => cit (Nat.beq t.1 0 && Nat.beq t.2.1 Y.1 && Nat.ble (1 + cws (st.take Y.2.2.2.2.2.1)) Y.2.2.2.1 && Nat.ble (cws r) 8)
              (match Q.2.1[i.2.2.2.1]? with
              | some (j :: js) => ctry Q lv' (cEn Y.2.2.2.1 ((3, c, 0) :: (st.take Y.2.2.2.2.2.1).reverse)) K (fun rt K' => cgo Q top (i.1 + 3) L (rt ++ r) K' (cx Q n lv top M (i.1 + 3) L (rt ++ r) K')) (j :: js)
              | _ => (match cx Q n lv' false Y 0 (cEn Y.2.2.2.1 ((3, c, 0) :: (st.take Y.2.2.2.2.2.1).reverse)) [] K with
                | some es => cexs (fun rt K' => cgo Q top (i.1 + 3) L (rt ++ r) K' (cx Q n lv top M (i.1 + 3) L (rt ++ r) K')) es
                | none => none))
            | _ => none)
          | none => none))
      | _ => cX1 Q.2.2.2.1 (fun pc' L' st' K' => cgo Q top pc' L' st' K' (cx Q n lv top M pc' L' st' K')) i L st K
def cpst (posts : List cT) (es : List cEx) : Bool := es.all (fun e => posts.any (fun P => match cent P [] e.1 e.2 (fun _ _ _ => some ()) with
  | some _ => true
  | none => false))
def cseg (Q : cQ) (C : cC) (n : Nat) (pc : Nat) (T : cT) : Bool := match zmt[C.1]? with
  | some M => (match cx Q n C.2.1 true M pc T.1 T.2.1 T.2.2 with
    | some es => cpst C.2.2.2.2.1 es
    | none => false)
  | none => false
def crk0 (T : cT) (r : cRk) : Bool := cle (clin T.2.2 (r.2.map (fun z => (-z.1, z.2)))) r.1 && r.2.all (fun z => Nat.blt z.2 T.2.2.1.length)
def cchk (CT : List cC) (CM : List (List Nat)) (n k : Nat) : Bool := match CT[k]? with
  | some C => cseg (CT, CM, k, C.2.2.1, C.2.2.2.2.2, none) C n 0 C.2.2.2.1 && Nat.beq C.2.2.2.1.2.1.length 0 &&
      C.2.2.2.2.2.all (fun c => crk0 c.2.1 c.2.2 && cseg (CT, CM, k, C.2.2.1, C.2.2.2.2.2, some c.2.2) C n c.1 c.2.1)
  | none => false
end

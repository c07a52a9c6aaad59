-- ===== the checker: calls, cuts, runs =====
/-- unverified: what T's values are in the state -/
def cf1 (t w : cW) (a : List (Option (Nat × Int)) × List (Option Nat)) : List (Option (Nat × Int)) × List (Option Nat) := match t.1 with
  | 1 => (match a.1[t.2.1]? with
    | some none => (bif Nat.beq w.1 1 then a.1.set t.2.1 (some (w.2.1, w.2.2 - t.2.2)) else a.1, a.2)
    | _ => a)
  | 2 => (match a.1[t.2.1]? with
    | some none => (bif Nat.beq w.1 2 then a.1.set t.2.1 (some (w.2.1, w.2.2 - t.2.2)) else a.1, a.2)
    | _ => a)
  | 3 => (match a.2[t.2.1 - 1000]? with
    | some none => bif Nat.blt t.2.1 1000 then a else (a.1, a.2.set (t.2.1 - 1000) (some w.2.1))
    | _ => a)
  | 6 => (match a.2[t.2.1 - 1000]? with
    | some none => bif Nat.blt t.2.1 1000 then a else (a.1, a.2.set (t.2.1 - 1000) (some w.2.1))
    | _ => a)
  | _ => a
def cfl : List cW → List cW → List (Option (Nat × Int)) × List (Option Nat) → List (Option (Nat × Int)) × List (Option Nat)
  | t :: r, w :: s, a => cfl r s (cf1 t w a)
  | _, _, a => a
def cnuO (nu : List (Option Nat)) (c : Nat) : Nat := bif Nat.blt c 1000 then c else match nu[c - 1000]? with
  | some (some x) => x
  | _ => c
/-- T's facts, loaded where the state has none, and what they are -/
def cff {α : Type} (k : cK → List (Option (Nat × Int)) × List (Option Nat) → Option α) : List (Nat × Nat × cW) → cK → List (Option (Nat × Int)) × List (Option Nat) → Option α
  | [], K, a => k K a
  | f :: r, K, a => match K.2.2.2.2.1.find? (fun g => Nat.beq g.1 (cnuO a.2 f.1) && Nat.beq g.2.1 f.2.1) with
    | some g => cff k r K (cf1 f.2.2 g.2.2 a)
    | none => match creg K (cnuO a.2 f.1) with
      | some g => (match cRT[g]? with
        | some t => bif Nat.beq t.1 0 then (match t.2.2.2.2.2[f.2.1]? with
          | some ty => bif Nat.beq ty.1 0 then cff k r (K.1 ++ [(ty.2.1, ty.2.2)], K.2.1, K.2.2.1, K.2.2.2.1, (cnuO a.2 f.1, f.2.1, 1, K.1.length, 0) :: K.2.2.2.2.1, K.2.2.2.2.2) (cf1 f.2.2 (1, K.1.length, 0) a) else none
          | none => none) else none
        | none => none)
      | none => none
def cfm (V : cV) (mu : List (Option (Nat × Int))) : List (Nat × Int) := mu.map (fun m => match m with
  | some x => x
  | none => (0, 0))
def cfn (nu : List (Option Nat)) : List Nat := nu.map (fun m => match m with
  | some x => x
  | none => 0)
def cf0 (T : cT) : List (Option (Nat × Int)) × List (Option Nat) := ((match T.2.2.1 with
  | [] => []
  | _ :: r => some (0, 0) :: r.map (fun _ => none)), T.2.2.2.2.2.1.map (fun _ => none))
def cent {α : Type} (T : cT) (L St : List cW) (K : cK) (k : cK → List (Nat × Int) → List Nat → Option α) : Option α :=
  cff (fun K' a => bif cver T L St K' (cfm K'.1 a.1) (cfn a.2) then k K' (cfm K'.1 a.1) (cfn a.2) else none) T.2.2.2.2.2.2.1 K (cfl T.2.1 St (cfl T.1 L (cf0 T)))
-- what stands behind a call
def csv (b p : Nat) : Nat := bif Nat.beq p 0 then 0 else b + p - 1
def csc (b c : Nat) : Nat := bif Nat.blt c 1000 then c else c + b
def csw (b rb : Nat) (w : cW) : cW := match w.1 with
  | 1 => (1, csv b w.2.1, w.2.2)
  | 2 => (2, csv b w.2.1, w.2.2)
  | 3 => (3, csc rb w.2.1, 0)
  | 6 => (6, csc rb w.2.1, 0)
  | _ => w
def cki (K : cK) (W : List (Nat × Nat)) (c f : Nat) : Bool := match creg K c with
  | some r => !(cWn W r f)
  | none => false
def caft (K P : cK) (W : List (Nat × Nat)) : cK :=
  (K.1 ++ P.1.tail, P.2.1.map (fun t => (csv K.1.length t.1, csv K.1.length t.2.1, t.2.2)) ++ K.2.1, P.2.2.1.map (fun t => (csv K.1.length t.1, t.2)) ++ K.2.2.1,
    K.2.2.2.1 ++ P.2.2.2.1, P.2.2.2.2.1.map (fun t => (csc K.2.2.2.1.length t.1, t.2.1, csw K.1.length K.2.2.2.1.length t.2.2)) ++ K.2.2.2.2.1.filter (fun t => cki K W t.1 t.2.1),
    K.2.2.2.2.2.1, K.2.2.2.2.2.2.filter (fun t => cki K W t.1 0))
def call' (K : cK) (W : List (Nat × Nat)) (k : List cW → cK → Option (List cEx)) : List cT → Option (List cEx)
  | [] => some []
  | P :: r => cap (k (P.2.1.map (csw K.1.length K.2.2.2.1.length)) (caft K P.2.2 W)) (call' K W k r)
def cexs (k : List cW → cK → Option (List cEx)) : List cEx → Option (List cEx)
  | [] => some []
  | e :: r => cap (k e.1 e.2) (cexs k r)
-- ranks
def clin (K : cK) : List (Int × Nat) → Int
  | [] => 0
  | t :: r => (bif cle 0 t.1 then t.1 * cub K t.2 else t.1 * clb K t.2) + clin K r
/-- one term (a, p) put into a sum -/
def cins (a : Int) (p : Nat) : List (Int × Nat) → List (Int × Nat)
  | [] => [(a, p)]
  | t :: r => bif Nat.beq t.2 p then (t.1 + a, p) :: r else t :: cins a p r
def cmrg (l m : List (Int × Nat)) : List (Int × Nat) := l.foldr (fun t s => cins t.1 t.2 s) m
def cnz' (l : List (Int × Nat)) : List (Int × Nat) := l.filter (fun t => !(ceI t.1 0) && !(Nat.beq t.2 0))
def cdfB (K : cK) (p q : Nat) : Int := K.2.1.foldr (fun t m => bif Nat.beq t.1 p && Nat.beq t.2.1 q then cmn m t.2.2 else m) (cub K p - clb K q)
/-- an upper bound of a sum of terms -/
def club (K : cK) (l : List (Int × Nat)) : Int := match l with
  | [(a, p), (b, q)] => bif ceI (a + b) 0 then (bif cle 0 a then a * cdfB K p q else b * cdfB K q p) else clin K l
  | _ => clin K l
def cmu (mu : List (Nat × Int)) (p : Nat) : Nat × Int := match mu[p]? with
  | some m => m
  | none => (0, 0)
/-- the rank of T (seen through mu) is below the start's and not below 0 -/
def crk (K : cK) (mu : List (Nat × Int)) (s t : cRk) : Bool :=
  let l := t.2.map (fun z => (z.1, cmu mu z.2))
  t.2.all (fun z => Nat.blt z.2 mu.length) && cle (club K (cnz' (cmrg (l.map (fun z => (z.1, z.2.1))) (cmrg (s.2.map (fun z => (-z.1, z.2))) []))) + (l.foldr (fun z m => z.1 * z.2.2 + m) (t.1 - s.1)) + 1) 0
/-- what a segment knows: contracts (in order), a method's contracts by number, this one's place, what may be written, cuts, the start's rank (none: the entry) -/
abbrev cQ : Type := List cC × List (List Nat) × Nat × List (Nat × Nat) × List (Nat × cT × cRk) × Option cRk
def ccut (Q : cQ) (pc : Nat) (L St : List cW) (K : cK) : Option (Option (List cEx)) := match Q.2.2.2.2.1.find? (fun c => Nat.beq c.1 pc) with
  | none => none
  | some c => some (cent c.2.1 L St K (fun K' mu _ => match Q.2.2.2.2.2 with
    | none => some []
    | some s => bif crk K' mu s c.2.2 then some [] else none))
def ctry (Q : cQ) (lv : Nat) (L : List cW) (K : cK) (k : List cW → cK → Option (List cEx)) : List Nat → Option (List cEx)
  | [] => none
  | j :: r => match Q.1[j]? with
    | some C => bif Nat.blt j Q.2.2.1 && Nat.ble C.2.1 lv && C.2.2.1.all (fun w => cWn Q.2.2.2.1 w.1 w.2) then
        (match cent C.2.2.2.1 L [] K (fun K' _ _ => call' K' C.2.2.1 k C.2.2.2.2.1) with
        | some x => some x
        | none => ctry Q lv L K k r)
      else ctry Q lv L K k r
    | none => none
def cretI (ret : Option FieldType) (K : cK) (p : Nat) (o : Int) : Bool := match ret with
  | some .int => true
  | some .boolean => cle 0 (clo K p o) && cle (chi K p o) 1
  | _ => false
/-- Math -/
def cmath (a : Nat) (K : cK) (st : List cW) (k : List cW → cK → Option (List cEx)) : Option (List cEx) := match a with
  | 1010 => cpII st fun p o q s r => cit (Nat.ble (cws r) 8) (cfr K (cmx (clo K p o) (clo K q s), cmx (chi K p o) (chi K q s)) fun K' z => k ((1, z, 0) :: r) K')
  | 1011 => cpII st fun p o q s r => cit (Nat.ble (cws r) 8) (cfr K (cmn (clo K p o) (clo K q s), cmn (chi K p o) (chi K q s)) fun K' z => k ((1, z, 0) :: r) K')
  | 1012 => cpI st fun p o r => cit (Nat.ble (cws r) 8) (bif cle 0 (clo K p o) then k ((1, p, o) :: r) K else cfr K (-cM32, cM32 - 1) fun K' z => k ((1, z, 0) :: r) K')
  | 1013 => cpJJ st fun p o q s r => cit (Nat.ble (cws r) 8) (cfr K (cmx (clo K p o) (clo K q s), cmx (chi K p o) (chi K q s)) fun K' z => k ((2, z, 0) :: r) K')
  | 1014 => cpJJ st fun p o q s r => cit (Nat.ble (cws r) 8) (cfr K (cmn (clo K p o) (clo K q s), cmn (chi K p o) (chi K q s)) fun K' z => k ((2, z, 0) :: r) K')
  | _ => none
/-- indexOf in the names' signs -/
def cixo (lv : Nat) (K : cK) (st : List cW) (k : List cW → cK → Option (List cEx)) : Option (List cEx) := match st with
  | (1, _, _) :: (7, _, _) :: r => cit (Nat.ble 4 lv && Nat.ble (cws r) 8) (cfr K (-1, 12) fun K' z => k ((1, z, 0) :: r) K')
  | _ => none
/-- System.arraycopy -/
def ccopy (W : List (Nat × Nat)) (K : cK) (st : List cW) (k : List cW → cK → Option (List cEx)) : Option (List cEx) := match st with
  | (1, n, no) :: (1, d, dO) :: (3, c, _) :: (1, s, so) :: (3, c0, _) :: r => cit (Nat.ble (cws r) 8) (cRg K c0 fun _ t0 => cRg K c fun g t =>
      cit (((Nat.beq t0.1 2 && Nat.beq t.1 2) || (Nat.beq t0.1 1 && Nat.beq t.1 1 && Nat.beq t0.2.1 3 && Nat.beq t.2.1 3 && cle (-128) t0.2.2.2.1 && cle t0.2.2.2.2.1 127) || (Nat.beq t0.1 1 && Nat.beq t.1 1 && Nat.beq t0.2.1 0 && Nat.beq t.2.1 0)) &&
        cle t.2.2.2.1 t0.2.2.2.1 && cle t0.2.2.2.2.1 t.2.2.2.2.1 && cle 0 (clo K n no) && cle 0 (clo K d dO) && cle 0 (clo K s so) && cle (chi K s so + chi K n no) t0.2.2.1 && cle (chi K d dO + chi K n no) t.2.2.1 && cWn W g 0 && !(cJs g 0))
        (k r (csA K g [])))
  | _ => none
def cgo (Q : cQ) (top : Bool) (pc : Nat) (L St : List cW) (K : cK) (r : Option (List cEx)) : Option (List cEx) := bif top then (match ccut Q pc L St K with
  | none => r
  | some x => x) else r
def cx (Q : cQ) : Nat → Nat → Bool → aM → Nat → List cW → List cW → cK → Option (List cEx)
  | 0, _, _, _, _, _, _, _ => none
  | n + 1, lv, top, M, pc, L, st, K => match aF pc M.2.2.2.2.2.2.2 with
    | none => none
    | some i => match i.2.1 with
      | .ireturn => (match st with
        | [(1, p, o)] => cit (cretI M.2.2.2.2.1 K p o) (some [([(1, p, o)], K)])
        | _ => none)
      | .lreturn => (match st, M.2.2.2.2.1 with
        | [(2, p, o)], some .long => some [([(2, p, o)], K)]
        | _, _ => none)
      | .return_ => (match st, M.2.2.2.2.1 with
        | [], none => some [([], K)]
        | _, _ => none)
      | .lcmp => (match aF (i.1 + 1) M.2.2.2.2.2.2.2 with
        | some j => (match j.2.1 with
          | .ifCond c _ => cpJJ st fun p o q s r => ccmp c K p o q s (fun K' => cgo Q top j.2.2.2.1 L r K' (cx Q n lv top M j.2.2.2.1 L r K')) (fun K' => cgo Q top (i.1 + 4) L r K' (cx Q n lv top M (i.1 + 4) L r K'))
          | _ => none)
        | none => none)
      | .invokestatic _ => (match lv with
        | 0 => none
        | lv' + 1 => bif Nat.beq i.2.2.2.1 1002 then ccopy Q.2.2.2.1 K st (fun st' K' => cgo Q top (i.1 + 3) L st' K' (cx Q n lv top M (i.1 + 3) L st' K')) else bif Nat.ble 1010 i.2.2.2.1 then cmath i.2.2.2.1 K st (fun st' K' => cgo Q top (i.1 + 3) L st' K' (cx Q n lv top M (i.1 + 3) L st' K')) else (match zmt[i.2.2.2.1]? with
          | some Y => cit (Nat.beq Y.2.2.2.2.2.2.1 1 && Nat.ble Y.2.2.2.2.2.1 st.length && Nat.ble (cws (st.take Y.2.2.2.2.2.1)) Y.2.2.2.1 && Nat.ble (cws (st.drop Y.2.2.2.2.2.1)) 8)
              (match Q.2.1[i.2.2.2.1]? with
              | some (j :: js) => ctry Q lv' (cEn Y.2.2.2.1 (st.take Y.2.2.2.2.2.1).reverse) K (fun rt K' => cgo Q top (i.1 + 3) L (rt ++ st.drop Y.2.2.2.2.2.1) K' (cx Q n lv top M (i.1 + 3) L (rt ++ st.drop Y.2.2.2.2.2.1) K')) (j :: js)
              | _ => (match cx Q n lv' false Y 0 (cEn Y.2.2.2.1 (st.take Y.2.2.2.2.2.1).reverse) [] K with
                | some es => cexs (fun rt K' => cgo Q top (i.1 + 3) L (rt ++ st.drop Y.2.2.2.2.2.1) K' (cx Q n lv top M (i.1 + 3) L (rt ++ st.drop Y.2.2.2.2.2.1) K')) es
                | none => none))
          | none => none))
      | .invokevirtual _ => (match lv with
        | 0 => none
        | lv' + 1 => bif Nat.beq i.2.2.2.1 1001 then cixo lv' K st (fun st' K' => cgo Q top (i.1 + 3) L st' K' (cx Q n lv top M (i.1 + 3) L st' K')) else (match zmt[i.2.2.2.1]? with
          | some Y => cit (Nat.beq Y.2.2.2.2.2.2.1 0 && Nat.ble Y.2.2.2.2.2.1 st.length) (match st.drop Y.2.2.2.2.2.1 with
            | (3, c, _) :: r => cRg K c fun _ t => cit (Nat.beq t.1 0 && Nat.beq t.2.1 Y.1 && Nat.ble (1 + cws (st.take Y.2.2.2.2.2.1)) Y.2.2.2.1 && Nat.ble (cws r) 8)
              (match Q.2.1[i.2.2.2.1]? with
              | some (j :: js) => ctry Q lv' (cEn Y.2.2.2.1 ((3, c, 0) :: (st.take Y.2.2.2.2.2.1).reverse)) K (fun rt K' => cgo Q top (i.1 + 3) L (rt ++ r) K' (cx Q n lv top M (i.1 + 3) L (rt ++ r) K')) (j :: js)
              | _ => (match cx Q n lv' false Y 0 (cEn Y.2.2.2.1 ((3, c, 0) :: (st.take Y.2.2.2.2.2.1).reverse)) [] K with
                | some es => cexs (fun rt K' => cgo Q top (i.1 + 3) L (rt ++ r) K' (cx Q n lv top M (i.1 + 3) L (rt ++ r) K')) es
                | none => none))
            | _ => none)
          | none => none))
      | _ => cX1 Q.2.2.2.1 (fun pc' L' st' K' => cgo Q top pc' L' st' K' (cx Q n lv top M pc' L' st' K')) i L st K
/-- what a segment's ends must be -/
def cpst (posts : List cT) (es : List cEx) : Bool := es.all (fun e => posts.any (fun P => match cent P [] e.1 e.2 (fun _ _ _ => some ()) with
  | some _ => true
  | none => false))
def cpre0 (T : cT) : Bool := match T.2.2.1 with
  | q :: _ => ceI q.1 0 && ceI q.2 0
  | [] => false
def cseg (Q : cQ) (C : cC) (n : Nat) (pc : Nat) (T : cT) : Bool := match zmt[C.1]? with
  | some M => (match cx Q n C.2.1 true M pc T.1 T.2.1 T.2.2 with
    | some es => cpst C.2.2.2.2.1 es
    | none => false)
  | none => false
def crk0 (T : cT) (r : cRk) : Bool := cle (clin T.2.2 (r.2.map (fun z => (-z.1, z.2)))) r.1 && r.2.all (fun z => Nat.blt z.2 T.2.2.1.length)
/-- contract k of CT is kept by its method, if the earlier ones are -/
def cchk (CT : List cC) (CM : List (List Nat)) (n k : Nat) : Bool := match CT[k]? with
  | some C => cseg (CT, CM, k, C.2.2.1, C.2.2.2.2.2, none) C n 0 C.2.2.2.1 && Nat.beq C.2.2.2.1.2.1.length 0 &&
      C.2.2.2.2.2.all (fun c => crk0 c.2.1 c.2.2 && cseg (CT, CM, k, C.2.2.1, C.2.2.2.2.2, some c.2.2) C n c.1 c.2.1)
  | none => false

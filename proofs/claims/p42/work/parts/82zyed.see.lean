-- ===== 82zyed.see: 58 texts =====
section
-- ===== what is seen of fields =====
def hpB (V : vS) (s i : Int) (k : Nat) : Bool := decide (cRow1 V s = 1 ∧ 0 ≤ i + (k : Int) ∧ i + (k : Int) < V 70 s)
def sE (V : vS) (s i : Int) : Nat → Bool
  | 0 => false
  | k + 1 => sE V s i k || !hpB V s i k
def sB (V : vS) (s i : Int) (k : Nat) : Bool := !sE V s i (k + 1) && decide (w32 (V 71 (60 * s + (i + (k : Int)))) ≠ V 63 1)
def sN (V : vS) (s i : Int) : Nat → Int
  | 0 => 0
  | k + 1 => sN V s i k + (if sB V s i k then 1 else 0)
end
section
-- ===== what a field looks like =====
-- the first of the least, and the least of the others
def bst (f : Nat → Int) : Nat → Nat
  | 0 => 0
  | k + 1 => if f k < f (bst f k) then k else bst f k
def nx (f : Nat → Int) : Nat → Int
  | 0 => 2147483647
  | k + 1 => if f k < f (bst f k) then f (bst f k) else if k = 0 then 2147483647 else min (nx f k) (f k)
end
section
theorem JA_vw {r r' n : Nat} {h : aH} (J : JA r r' n h) : ∀ j, 0 ≤ j → j < (n : Int) → vw h r j = vw h r' j := by
  obtain ⟨g, g', c, c', e⟩ := J
  intro j h0 h1
  rw [vw_a c h0, vw_a c' h0]
  show (g j.toNat).toInt = (g' j.toNat).toInt
  rw [e _ (by omega)]
end
section
-- ===== the reading of texts =====
-- what a text's reading comes to: the place reached and the fault (-1: none)
def nmB (t : Int) : Bool := t == 121 || t == 107 || t == 115 || t == 102 || t == 103 || t == 99 || t == 116 || t == 108 || t == 101 || t == 112 || t == 109 || t == 106 || t == 98
def isD (t : Int) : Bool := decide (48 ≤ t ∧ t ≤ 57)
def dgEnd (T : Int → Int) : Nat → Int → Int
  | 0, p => p
  | k + 1, p => bif isD (T p) then dgEnd T k (p + 1) else p
def opB (t : Nat) (c : Int) : Bool := match t with
  | 2 => c == 42 || c == 47 || c == 37
  | 4 => c == 43 || c == 45
  | 7 => c == 38
  | 9 => c == 124
  | 12 => c == 60 || c == 61 || c == 62
  | 13 => c == 63
  | 14 => c == 59
  | _ => false
end
section
def pre122 (V : vS) (t : Int) : Prop := (0 ≤ t ∧ t < 16) ∧ (0 ≤ V 36 t ∧ V 36 t ≤ 160) ∧ ∀ j, 0 ≤ j → j < 2560 → -128 ≤ V 35 j ∧ V 35 j ≤ 127
def oT (V : vS) (t p : Int) : Int := if 0 ≤ p ∧ p < V 36 t then V 35 (160 * t + p) else -1
end
section
section PT5
variable {n : Nat} {X : aX} {M : aM} {Q : Option Value → aH → Prop} {pc len a b : Nat} {l : aL} {st r : List Value} {h : aH} {B : Int}
end PT5
def wsM (V : vS) (c y k : Int) : Prop := iDiv (V 20 c) 365 = y ∧ V 20 c ≤ k
def bhd (V : vS) (c f b : Int) : Prop := f < V 17 c ∨ (V 17 c = f ∧ b < V 18 c)

def cnt (V : vS) (j y k : Int) : Prop := wsM V (V 21 j) y k ∧ (V 5 (V 18 (V 21 j)) = -1 ∨ k < V 5 (V 18 (V 21 j))) ∧ (V 16 1 ≤ j + 1 ∨ bhd V (V 21 (j + 1)) (V 17 (V 21 j)) (V 18 (V 21 j)) ∨ ¬ wsM V (V 21 (j + 1)) y k)
-- the squares of a row that are out
def oHit (V : vS) (y yr k : Int) (i : Int) : Prop := V 26 i ≤ k ∧ V 25 i ≤ w32 (yr * 365) ∧ iRem (V 23 i) 100 ≤ y ∧ y ≤ iRem (V 24 i) 100
noncomputable def oRw (V : vS) (y yr k : Int) : Nat → Int
  | 0 => 0
  | i + 1 => @ite Int (oHit V y yr k (i : Nat)) (Classical.propDecidable _) (bOr (oRw V y yr k i) (w32 (bShl 2 (iDiv (V 24 (i : Nat)) 100) - bShl 1 (iDiv (V 23 (i : Nat)) 100)))) (oRw V y yr k i)
-- what a control told as missing
def msg (V : vS) (c yr k : Int) : Nat → Int
  | 0 => 0
  | i + 1 => if V 27 (i : Nat) = V 17 c ∧ V 28 (i : Nat) = V 18 c ∧ V 29 (i : Nat) = yr ∧ V 31 (i : Nat) ≤ k then V 30 (i : Nat) else msg V c yr k i
end
section
def g1 (d : Nat) : Nat := d - (d / 2 &&& 85)
def g2 (d : Nat) : Nat := (d &&& 51) + (d / 4 &&& 51)
def g3 (d : Nat) : Nat := (d + d / 16) % 16
def bcn (b : Nat → Bool) : Nat → Int
  | 0 => 0
  | k + 1 => bcn b k + (if b k then 1 else 0)
end
section
section PT6
def hk (h h' : aH) : Prop := ∀ (c t N : Nat) (y : (Nat → Int32) ⊕ (Nat → Int64) ⊕ (Nat → UInt32) ⊕ (Nat → UInt64) ⊕ (Nat → Option Nat)), h.1[c]? = some (.inl (t, N, y)) → ∃ y' : (Nat → Int32) ⊕ (Nat → Int64) ⊕ (Nat → UInt32) ⊕ (Nat → UInt64) ⊕ (Nat → Option Nat), h'.1[c]? = some (.inl (t, N, y'))
variable {n : Nat} {X : aX} {M : aM} {Q : Option Value → aH → Prop} {pc len a b : Nat} {l : aL} {r : List Value} {h : aH} {A B : Int}
end PT6

-- a season's list: its farms, its fields, its rows
def fmA (V : vS) (r6 : Nat) (i : Int) : Int := V 17 (V r6 i)
def fdA (V : vS) (r6 : Nat) (i : Int) : Int := V 18 (V r6 i)
def Bt (V : vS) (r6 : Nat) (y i : Int) (x : Nat) : Bool := tb (V 8 (24 * fdA V r6 i + y)) x
def lst (V : vS) (q : Nat) : Prop := (V q 0 = ((1 : Nat) : Int) ∧ V q 1 = ((16 : Nat) : Int) ∧ V q 6 = ((q + 1 : Nat) : Int)) ∧ (0 ≤ V q 5 ∧ V q 5 ≤ 300) ∧ (∀ i, 0 ≤ i → i < V q 5 → 0 ≤ fdA V (q + 1) i ∧ fdA V (q + 1) i < 150) ∧ ∀ i j, 0 ≤ i → i ≤ j → j < V q 5 → fmA V (q + 1) i ≤ fmA V (q + 1) j
def fltB (V : vS) (r6 : Nat) (y N : Int) (x : Nat) : Prop := ∃ j j', (0 ≤ j ∧ j < j' ∧ j' < N) ∧ fmA V r6 j ≠ fmA V r6 j' ∧ Bt V r6 y j x = true ∧ Bt V r6 y j' x = true
end
section
-- ===== seasons: a row of squares =====
noncomputable def prB (p : Prop) : Bool := @decide p (Classical.propDecidable p)
def lsB (V : vS) (r6 : Nat) (y i : Int) (x : Nat) : Prop := ∃ j, (0 ≤ j ∧ j < i) ∧ fmA V r6 j = fmA V r6 i ∧ Bt V r6 y j x = true
end
section
def suS (V : vS) (q : Nat) (i : Int) : vS := up (up (up (up V (q + 3) i (min (V (q + 2) i) (msg V (V (q + 1) i) (V q 2) (V q 3) (V 16 3).toNat))) (q + 5) (fmA V (q + 1) i) (w32 (V (q + 5) (fmA V (q + 1) i) + V (q + 2) i))) (q + 6) (fmA V (q + 1) i) (w32 (V (q + 6) (fmA V (q + 1) i) + min (V (q + 2) i) (msg V (V (q + 1) i) (V q 2) (V q 3) (V 16 3).toNat)))) (q + 7) (fmA V (q + 1) i) (max (V (q + 7) (fmA V (q + 1) i)) (V (q + 1) i))
def suN (V : vS) (q : Nat) : Nat → vS
  | 0 => V
  | i + 1 => suS (suN V q i) q (i : Nat)
def suF (V : vS) (q : Nat) : vS := suN (fillV (fillV (fillV V (q + 5) 0 150 0) (q + 6) 0 150 0) (q + 7) 0 150 (-1)) q (V q 5).toNat
def sfl (V : vS) (q : Nat) : Prop := V q 7 = ((q + 2 : Nat) : Int) ∧ V q 8 = ((q + 3 : Nat) : Int) ∧ V q 9 = ((q + 4 : Nat) : Int) ∧ V q 10 = ((q + 5 : Nat) : Int) ∧ V q 11 = ((q + 6 : Nat) : Int) ∧ V q 12 = ((q + 7 : Nat) : Int)
end
section
-- the places that count, numbered
noncomputable def cnN (V : vS) (y k : Int) : Nat → Nat
  | 0 => 0
  | p + 1 => cnN V y k p + (if prB (cnt V (p : Nat) y k) then 1 else 0)
-- the squares of a row that count, of one on the list
noncomputable def szF (V : vS) (q : Nat) (i : Int) (y : Int) : Int := bcn (fun x => (Bt V (q + 1) y i x && !(prB (fltB V (q + 1) y (V q 5) x) || tb (oRw V y (V q 2) (V q 3) (V 16 2).toNat) x)) && !(prB (lsB V (q + 1) y i x))) 32
noncomputable def szS (V : vS) (q : Nat) (i : Int) : Nat → Int
  | 0 => 0
  | y + 1 => szS V q i y + szF V q i (y : Nat)
end
section
def R97 (V : vS) (q : Nat) (k st : Int) (V' : vS) : Prop := ∃ W : vS, V' = suF W q ∧ (∀ (c : Nat) j, c ≠ q → c ≠ q + 1 → c ≠ q + 2 → c ≠ q + 4 → W c j = V c j) ∧ (W q 3 = k ∧ W q 4 = st ∧ ∀ j, j ≠ 3 → j ≠ 4 → j ≠ 5 → W q j = V q j) ∧ W q 5 = ((cnN V (V q 2) k (V 16 1).toNat : Nat) : Int) ∧ (∀ p : Nat, (p : Int) < V 16 1 → cnt V (p : Nat) (V q 2) k → W (q + 1) ((cnN V (V q 2) k p : Nat) : Int) = V 21 (p : Nat)) ∧ lst W q ∧ (∀ i, 0 ≤ i → i < W q 5 → W (q + 2) i = szS W q i 24) ∧ ∀ y, 0 ≤ y → y < 24 → ∀ x, x < 32 → (tb (W (q + 4) y) x = true ↔ fltB W (q + 1) y (W q 5) x)
end
section
def lat (V : vS) (c o k : Int) : Prop := V 90 o ≤ k ∧ V 87 o = V 87 c ∧ V 88 o = V 88 c ∧ iDiv (V 90 o) 365 = iDiv (V 90 c) 365
def mcn (V : vS) (c k : Int) : Prop := V 90 c ≤ k ∧ (V 77 (V 88 c) < 0 ∨ k < V 77 (V 88 c)) ∧ ∀ o, c < o → o < V 72 19 → ¬ lat V c o k
-- what a control told as missing
def mmg (V : vS) (c k : Int) : Nat → Int
  | 0 => 0
  | i + 1 => if V 98 (i : Nat) = V 87 c ∧ V 99 (i : Nat) = V 88 c ∧ V 100 (i : Nat) = iDiv (V 90 c) 365 ∧ V 102 (i : Nat) ≤ k then V 101 (i : Nat) else mmg V c k i
-- is a square in a field, is it out
def isI (V : vS) (b q : Int) : Prop := bAnd (bShr (V 80 (w32 (w32 (24 * b) + iDiv q 24))) (iRem q 24)) 1 = 1
def oHm (V : vS) (x y yr k i : Int) : Prop := V 97 i ≤ k ∧ V 96 i ≤ w32 (365 * yr) ∧ (V 92 i ≤ x ∧ x ≤ V 94 i) ∧ V 93 i ≤ y ∧ y ≤ V 95 i
def isO (V : vS) (x y yr k : Int) : Prop := ∃ i, (0 ≤ i ∧ i < V 72 25) ∧ oHm V x y yr k i
end
section
def InM (V : vS) (c q : Int) : Prop := isI V (V 88 c) q
end
section
noncomputable def nQ (P : Int → Prop) : Nat → Int
  | 0 => 0
  | q + 1 => nQ P q + (if prB (P (q : Nat)) then 1 else 0)
end
section
def LkM (V : vS) (k yr c : Int) : Prop := mcn V c k ∧ iDiv (V 90 c) 365 = yr
def DB (V : vS) (k yr q : Int) : Prop := ∃ c1 c2, ((0 ≤ c1 ∧ c1 < V 72 19) ∧ LkM V k yr c1 ∧ InM V c1 q) ∧ ((0 ≤ c2 ∧ c2 < V 72 19) ∧ LkM V k yr c2 ∧ InM V c2 q) ∧ V 87 c1 ≠ V 87 c2
def tkQ (V : vS) (k yr c q : Int) : Prop := ∃ o, ((0 ≤ o ∧ o < V 72 19) ∧ LkM V k yr o ∧ InM V o q) ∧ V 87 o = V 87 c ∧ V 88 o < V 88 c
def gdR (V : vS) (k yr c q : Int) : Prop := InM V c q ∧ ¬ DB V k yr q ∧ ¬ isO V (q % 24) (q / 24) yr k ∧ ¬ tkQ V k yr c q
def bdR (V : vS) (k yr c q : Int) : Prop := InM V c q ∧ DB V k yr q
noncomputable def vG (V : vS) (k c : Int) : Int := nQ (gdR V k (iDiv (V 90 c) 365) c) 576
noncomputable def vB (V : vS) (k c : Int) : Int := nQ (bdR V k (iDiv (V 90 c) 365) c) 576
noncomputable def vF (V : vS) (k c : Int) : Int := if 0 ≤ w32 (vG V k c - mmg V c k (V 72 32).toNat) then w32 (vG V k c - mmg V c k (V 72 32).toNat) else 0
def rk (V W : vS) (k : Int) : Prop := ∀ c, 0 ≤ c → c < V 72 19 → W 103 c = bI (mcn V c k)
def rv (V W : vS) (k c : Int) : Prop := W 104 c = vG V k c ∧ W 106 c = vB V k c ∧ W 105 c = vF V k c
def rvs (V W : vS) (k y : Int) : Prop := ∀ c, 0 ≤ c → c < V 72 19 → mcn V c k → 0 ≤ iDiv (V 90 c) 365 → iDiv (V 90 c) 365 < y → rv V W k c
def fl (V W : vS) (k y : Int) : Prop := ∀ q, 0 ≤ q → q < 576 → W 109 q = bI (isO V (q % 24) (q / 24) y k) ∧ (W 108 q = 0 ↔ ¬ DB V k y q)
end
section
def rOK (V : vS) : Prop := V 72 38 = 0 → rk V V (V 72 39) ∧ rvs V V (V 72 39) 10
def q239 (V : vS) : Prop := (0 ≤ V 72 19 ∧ V 72 19 ≤ 300) ∧ (0 ≤ V 72 25 ∧ V 72 25 ≤ 40) ∧ (0 ≤ V 72 32 ∧ V 72 32 ≤ 200) ∧ (∀ c, 0 ≤ c → c < 300 → 0 ≤ V 87 c) ∧ rOK V
end
section
-- ===== seasons: the model reckons all =====
noncomputable def lt0 (V : vS) (c : Int) : Int := if 0 ≤ w32 (iRem (V 90 c) 365 - V 91 (V 74 (V 87 c))) then w32 (iRem (V 90 c) 365 - V 91 (V 74 (V 87 c))) else 0
end
section
def hs (h h' : aH) : Prop := h'.1.length = h.1.length ∧ hk h h'
section PT8
variable {n : Nat} {X : aX} {M : aM} {Q : Option Value → aH → Prop} {pc len a b : Nat} {l : aL} {st r : List Value} {h : aH} {A B : Int}
end PT8
end
section
def stm (V : vS) : Int := w32 (w32 (w32 (w32 (V 1 1 + V 1 5) + V 16 1) + V 16 2) + V 16 3)
def pb (V : vS) : Prop := ((0 ≤ V 1 1 ∧ V 1 1 ≤ 150) ∧ 0 ≤ V 1 5 ∧ V 1 5 ≤ 150) ∧ (0 ≤ V 16 1 ∧ V 16 1 ≤ 300) ∧ (∀ p, 0 ≤ p → p < V 16 1 → 0 ≤ V 18 (V 21 p) ∧ V 18 (V 21 p) < 150) ∧ (∀ p p', 0 ≤ p → p ≤ p' → p' < V 16 1 → V 17 (V 21 p) ≤ V 17 (V 21 p')) ∧ (∀ j, 0 ≤ V 8 j ∧ V 8 j < 2147483648) ∧ (0 ≤ V 16 2 ∧ V 16 2 ≤ 40) ∧ 0 ≤ V 16 3 ∧ V 16 3 ≤ 200
def slk (V : vS) (q : Nat) : Prop := V q 0 = ((1 : Nat) : Int) ∧ V q 1 = ((16 : Nat) : Int) ∧ V q 6 = ((q + 1 : Nat) : Int) ∧ sfl V q
def skd (h : aH) (q : Nat) : Prop := (∃ t y, h.1[q + 2]? = some (.inl (t, 300, y))) ∧ (∃ t y, h.1[q + 5]? = some (.inl (t, 150, y))) ∧ (∃ t y, h.1[q + 6]? = some (.inl (t, 150, y))) ∧ (∃ t y, h.1[q + 7]? = some (.inl (t, 150, y)))
def p1 (h : aH) (y : Int) : Prop := pb (vw h) ∧ (0 ≤ y → y < 10 → ∀ q : Nat, (q : Int) = vw h 42 y → 146 ≤ q ∧ slk (vw h) q ∧ vw h q 2 = y ∧ skd h q)
def R1 (h : aH) (y k : Int) (q : Nat) (h' : aH) : Prop := (146 ≤ q ∧ hk h h' ∧ (0 ≤ y ∧ y < 10) ∧ skd h' q) ∧ ((vw h 42 y = (q : Int) ∧ vw h q 3 = k ∧ vw h q 4 = stm (vw h) ∧ h' = h) ∨ ∃ U : vS, R97 U q k (stm (vw h)) (vw h') ∧ (slk U q ∧ U q 2 = y ∧ U 42 y = (q : Int)) ∧ ((vw h 42 y = (q : Int) ∧ U = vw h) ∨ (vw h 42 y = -1 ∧ q = h.1.length ∧ ∀ (c : Nat) j, c ≠ q → (c ≠ 42 ∨ j ≠ y) → U c j = vw h c j)))
end
section
noncomputable def lt1 (V : vS) (c : Int) : Int := @ite Int (0 ≤ V 3 (V 17 c) ∧ V 3 (V 17 c) ≤ 3) (Classical.propDecidable _) (max 0 (w32 (iRem (V 20 c) 365 - V 22 (V 3 (V 17 c))))) 0
end
section
-- ===== seasons: both sides =====
def lxl (V : vS) (c d : Int) : Prop := V 17 c < V 17 d ∨ (V 17 c = V 17 d ∧ (V 18 c < V 18 d ∨ (V 18 c = V 18 d ∧ c < d)))
def JOrd (V : vS) : Prop := (∀ p, 0 ≤ p → p < V 16 1 → 0 ≤ V 21 p ∧ V 21 p < V 16 1) ∧ (∀ p p', 0 ≤ p → p < p' → p' < V 16 1 → lxl V (V 21 p) (V 21 p')) ∧ (∀ c, 0 ≤ c → c < V 16 1 → ∃ p, (0 ≤ p ∧ p < V 16 1) ∧ V 21 p = c) ∧ ∀ c c', 0 ≤ c → c ≤ c' → c' < V 16 1 → V 20 c ≤ V 20 c'
-- the list of a season, as places of the order
def lis (V : vS) (q : Nat) (y k : Int) : Prop := V q 5 = ((cnN V y k (V 16 1).toNat : Nat) : Int) ∧ ∀ p : Nat, (p : Int) < V 16 1 → cnt V (p : Nat) y k → V (q + 1) ((cnN V y k p : Nat) : Int) = V 21 (p : Nat)
end
section
-- ===== seasons: both sides =====
-- what both sides know alike
def EQ (V : vS) : Prop := JClm V ∧ JBody V ∧ JOrd V ∧ (∀ c, 0 ≤ V 20 c ∧ V 20 c ≤ 2147483647) ∧ (∀ j, V 8 j = V 80 j) ∧ (∀ j, 0 ≤ V 8 j ∧ V 8 j < 2147483648) ∧ ∀ c, 0 ≤ V 18 c ∧ V 18 c < 150
end
section
def JOut2 (V : vS) : Prop := ∀ j, 0 ≤ j → j < V 16 2 → 0 ≤ V 92 j ∧ V 92 j ≤ V 94 j ∧ V 94 j < 24
end
section
-- ===== seasons: both sides =====
def JR24 (V : vS) : Prop := ∀ j, 0 ≤ V 8 j ∧ V 8 j < 16777216
def JCtl (V : vS) : Prop := V 16 3 = V 72 32 ∧ (∀ j, V 27 j = V 98 j) ∧ (∀ j, V 28 j = V 99 j) ∧ (∀ j, V 29 j = V 100 j) ∧ (∀ j, V 30 j = V 101 j) ∧ (∀ j, V 31 j = V 102 j) ∧ 0 ≤ V 16 3 ∧ V 16 3 ≤ 200
end
section
-- ===== seasons: both sides =====
-- sums over places
def sgm (f : Int → Int) : Nat → Int
  | 0 => 0
  | i + 1 => sgm f i + f (i : Nat)
theorem sgm_s (f : Int → Int) (i : Nat) : sgm f (i + 1) = sgm f i + f (i : Nat) := rfl
noncomputable def pI (p : Prop) (x : Int) : Int := @ite Int p (Classical.propDecidable p) x 0
theorem pI_t {p : Prop} {x : Int} (h : p) : pI p x = x := by unfold pI; rw [if_pos h]
theorem pI_f {p : Prop} {x : Int} (h : ¬ p) : pI p x = 0 := by unfold pI; rw [if_neg h]
theorem pI_c {p p' : Prop} {x x' : Int} (h : p ↔ p') (e : p → x = x') : pI p x = pI p' x' := by
  by_cases z : p
  · rw [pI_t z, pI_t (h.mp z), e z]
  · rw [pI_f z, pI_f (fun w => z (h.mpr w))]
theorem sgm_c {f g : Int → Int} : ∀ n : Nat, (∀ j : Int, 0 ≤ j → j < (n : Int) → f j = g j) → sgm f n = sgm g n
  | 0, _ => rfl
  | n + 1, h => by rw [sgm_s, sgm_s, sgm_c n (fun j a b => h j a (by omega)), h (n : Nat) (by omega) (by omega)]
def isMx (S : Int → Prop) (m : Int) : Prop := -1 ≤ m ∧ (m = -1 ∨ S m) ∧ ∀ c, S c → c ≤ m
def tmS (V : vS) (q : Nat) (f j : Int) (c : Int) : Prop := ∃ i, (0 ≤ i ∧ i < j) ∧ fmA V (q + 1) i = f ∧ V (q + 1) i = c
noncomputable def tSm (V : vS) (q r : Nat) (f : Int) (n : Nat) : Int := sgm (fun i => pI (fmA V (q + 1) i = f) (V r i)) n
-- a farm's squares, those told as missing, its latest claim
def tot (V : vS) (q : Nat) : Prop := ∀ f, 0 ≤ f → f < 150 → V (q + 5) f = w32 (tSm V q (q + 2) f (V q 5).toNat) ∧ V (q + 6) f = w32 (tSm V q (q + 3) f (V q 5).toNat) ∧ isMx (tmS V q f (V q 5)) (V (q + 7) f)
end
section
def scK (V : vS) (q : Nat) (y k : Int) : Prop := (V q 2 = y ∧ V q 3 = k) ∧ lis V q y k ∧ (∀ i, 0 ≤ i → i < V q 5 → V (q + 2) i = szS V q i 24) ∧ (∀ y', 0 ≤ y' → y' < 24 → ∀ x, x < 32 → (tb (V (q + 4) y') x = true ↔ fltB V (q + 1) y' (V q 5) x)) ∧ (∀ i, 0 ≤ i → i < V q 5 → V (q + 3) i = min (V (q + 2) i) (msg V (V (q + 1) i) y k (V 16 3).toNat)) ∧ tot V q
end
section
def JNum (V : vS) : Prop := (∀ j, 0 ≤ V 30 j ∧ V 30 j ≤ 576) ∧ JOut2 V ∧ JR24 V
end
section
-- ===== what calls keep =====
section PT9
variable {n : Nat} {X : aX} {M : aM} {Q : Option Value → aH → Prop} {pc len a b : Nat} {l : aL} {st r : List Value} {h : aH} {A B : Int}
end PT9
def sea (h : aH) (y : Int) (q : Nat) : Prop := 146 ≤ q ∧ slk (vw h) q ∧ vw h q 2 = y ∧ skd h q ∧ vw h q 5 ≤ 300 ∧ vw h q 4 ≤ stm (vw h) ∧ (vw h q 4 = stm (vw h) → scK (vw h) q y (vw h q 3))
def IV (h : aH) : Prop := pb (vw h) ∧ (∀ y, 0 ≤ y → y ≤ 9 → ∀ q : Nat, vw h 42 y = (q : Int) → sea h y q) ∧ (∀ y y', (0 ≤ y ∧ y ≤ 9) → (0 ≤ y' ∧ y' ≤ 9) → y ≠ y' → ∀ q q' : Nat, vw h 42 y = (q : Int) → vw h 42 y' = (q' : Int) → q + 7 < q' ∨ q' + 7 < q) ∧ q239 (vw h)
end
section
-- ===== seasons: the relation =====
def bd (V : vS) : Prop := (0 ≤ V 1 1 ∧ V 1 1 ≤ 150) ∧ (0 ≤ V 1 5 ∧ V 1 5 ≤ 150) ∧ (0 ≤ V 16 1 ∧ V 16 1 ≤ 300) ∧ (0 ≤ V 16 2 ∧ V 16 2 ≤ 40) ∧ 0 ≤ V 16 3 ∧ V 16 3 ≤ 200
end
section
-- ===== seasons: the relation =====
-- all that both sides know of seasons alike
def AP (V : vS) : Prop := EQ V ∧ JOut V ∧ JCtl V ∧ JNum V ∧ ∀ c, 0 ≤ c → c < V 16 1 → lt1 V c = lt0 V c
end
section
noncomputable def cErr (V : vS) (q : Nat) (f : Int) : Int := if w32 (V (q + 5) f - V (q + 6) f) = 0 then (if V (q + 5) f = 0 then 0 else 999) else min 999 (iDiv (w32 (100 * V (q + 6) f)) (w32 (V (q + 5) f - V (q + 6) f)))
end
section
-- what a farm has in a year, on both sides
noncomputable def vL (V : vS) (k c : Int) : Int := min (vG V k c) (mmg V c k (V 72 32).toNat)
noncomputable def fSm (V : vS) (k y f : Int) (g : Int → Int) : Int := sgm (fun c => pI (LkM V k y c ∧ V 87 c = f) (g c)) (V 72 19).toNat
end
section
-- ===== the rate of errors =====
-- what a reckoning holds, read by farm
def rkd (V W : vS) (k : Int) : Prop := (W 72 19 = V 72 19 ∧ (∀ c, W 87 c = V 87 c) ∧ ∀ c, W 90 c = V 90 c) ∧ (∀ c, 0 ≤ c → c < V 72 19 → W 103 c = bI (mcn V c k)) ∧ ∀ c, 0 ≤ c → c < V 72 19 → mcn V c k → 0 ≤ iDiv (V 90 c) 365 → iDiv (V 90 c) 365 < 10 → W 104 c = vG V k c ∧ W 105 c = vF V k c
end
section
-- those controlled, those wrong, the first eight
noncomputable def jX (P E : Int → Prop) : Nat → Int
  | 0 => 0
  | b + 1 => jX P E b + pI ((P (b : Nat) ∧ E (b : Nat)) ∧ nQ P b < 8) 1
end
section
-- ===== the rate of errors =====
def P66 (V : vS) (y b : Int) : Prop := cFarm V b ∧ ∃ c, (0 ≤ c ∧ c < V 16 3) ∧ (V 27 c = b ∧ V 29 c = y)
def E66 (V : vS) (q : Nat) (b : Int) : Prop := 2 < cErr V q b
def F66 (V : vS) (q : Nat) (y : Int) (k : Nat) (W : vS) : Prop := ((∀ (c : Nat) j, c ≠ 48 → W c j = V c j) ∧ ∀ j, j ≠ 13 → j ≠ 14 → j ≠ 15 → j ≠ 16 → W 48 j = V 48 j) ∧ W 48 13 = nQ (P66 V y) k ∧ W 48 14 = nQ (fun b => P66 V y b ∧ E66 V q b) k ∧ (nQ (P66 V y) k = 0 ∨ W 48 15 = min 8 (nQ (P66 V y) k) ∧ W 48 16 = jX (P66 V y) (E66 V q) k)
end
section
def two (V : vS) (q : Nat) (a b : Int) : Prop := ∃ i j, ((0 ≤ i ∧ i < V q 5) ∧ 0 ≤ j ∧ j < V q 5) ∧ V 18 (V (q + 1) i) = a ∧ V 18 (V (q + 1) j) = b ∧ V 17 (V (q + 1) j) ≠ V 17 (V (q + 1) i)
end
section
noncomputable def crS (V : vS) (q : Nat) (f j : Int) (n : Nat) : Int := sgm (fun i => pI (V 17 (V (q + 1) i) = f ∧ V 19 (V (q + 1) i) = j) (V (q + 2) i)) n
noncomputable def mdS (V : vS) (q : Nat) (f : Int) (n : Nat) : Int := sgm (fun i => pI (V 17 (V (q + 1) i) = f ∧ V 2 (V 18 (V (q + 1) i)) = 5) (V (q + 2) i)) n
def R3 (V : vS) (q : Nat) (f r : Int) (W : vS) : Prop := (∀ (c : Nat) j, c ≠ 44 → W c j = V c j) ∧ (∀ j, 0 ≤ j → j < 8 → W 44 j = w32 (crS V q f j (V q 5).toNat)) ∧ r = w32 (mdS V q f (V q 5).toNat)
end
section
def mxN (f : Int → Int) : Nat → Int
  | 0 => 0
  | k + 1 => max (mxN f k) (f (k : Nat))
def ldY (y : Int) : Int := w32 (w32 (w32 (y * 365) + 365) - 1)
end
section
def lkW (V : vS) (f y c : Int) : Prop := V 103 c ≠ 0 ∧ V 87 c = f ∧ iDiv (V 90 c) 365 = y
end
section
def cPrv (V : vS) (f y t : Int) : Prop := 1 ≤ V 32 (w32 (w32 (f * 10) + y)) ∧ V 32 (w32 (w32 (f * 10) + y)) ≤ w32 (t + 1)
noncomputable def kM (V : vS) (t y f : Int) : Int := fSm V t y f (vL V t)
end
section
def FC (V : vS) (f y t : Int) (T : Int → Int) (W : vS) : Prop := (∀ (c : Nat) j, c < 146 → c ≠ 42 → c ≠ 43 → c ≠ 44 → W c j = V c j) ∧ (∀ j, 0 ≤ j → j < 12 → W 43 j = T j) ∧ W 43 12 = nQ (fun y' => 0 < kM V t y' f) y.toNat

noncomputable def nT (V : vS) (q : Nat) (f y t r s : Int) (j : Int) : Int := if j = 0 then y else if j = 1 then V 2 f else if j = 2 then s else if j = 3 then w32 (s - V (q + 6) f) else if j = 4 then (if s = 0 then 0 else iDiv (w32 (100 * r)) s) else if j = 5 then nQ (fun j => 0 < V 44 j) 8 else if j = 6 then (if s = 0 then 0 else iDiv (w32 (100 * mxN (fun j => V 44 j) 8)) s) else if j = 7 then (if V (q + 7) f = -1 then 0 else lt1 V (V (q + 7) f)) else if j = 8 then cErr V q f else if j = 9 then nQ (fun i => cHold V (V 6 i) (ldY y) t = f) (V 1 4).toNat else if j = 10 then 0 else bI (cPrv V f y t)
section NT
variable (V : vS) (q : Nat) (f y t r s : Int)
end NT
end
section
-- ===== what is known of a farm =====
def R2 (h : aH) (f y t : Int) (h' : aH) : Prop := IV h' ∧ ∃ (q : Nat) (h1 h4 : aH) (r : Int), R1 h y t q h1 ∧ R3 (vw h1) q f r (vw h4) ∧ FC (vw h) f y t (nT (vw h4) q f y t r (vw h1 (q + 5) f)) (vw h')
end
section
theorem lkW_e {V W : vS} {t y f : Int} (R : rkd V W t) {c : Int} (c0 : 0 ≤ c) (cN : c < V 72 19) : lkW W f y c ↔ LkM V t y c ∧ V 87 c = f := by
  unfold lkW LkM
  rw [R.1.2.1, R.1.2.2, R.2.1 c c0 cN]
  by_cases z : mcn V c t
  · rw [bI_t z]
    exact ⟨fun w => ⟨⟨z, w.2.2⟩, w.2.1⟩, fun w => ⟨by decide, w.2, w.1.2⟩⟩
  · rw [bI_f z]
    exact ⟨fun w => absurd rfl w.1, fun w => absurd w.1.1 z⟩
theorem g104 {V W : vS} {t y f : Int} (R : rkd V W t) (hy : 0 ≤ y ∧ y ≤ 9) {P Q : Int → Prop} (e : ∀ c, P c ↔ Q c) : sgm (fun c => pI (lkW W f y c ∧ P c) (W 104 c)) (W 72 19).toNat = sgm (fun c => pI ((LkM V t y c ∧ V 87 c = f) ∧ Q c) (vG V t c)) (V 72 19).toNat := by
  rw [R.1.1]
  refine sgm_c _ (fun c c0 cN => ?_)
  refine pI_c (by rw [lkW_e R c0 (by omega), e c]) (fun z => ?_)
  have l := (lkW_e R c0 (by omega)).mp z.1
  exact (R.2.2 c c0 (by omega) l.1.1 (by rw [l.1.2]; exact hy.1) (by rw [l.1.2]; omega)).1
end
section
-- ===== the worth of texts =====
def nmV (t : Int) : Int := if t = 121 then 0 else if t = 107 then 1 else if t = 115 then 2 else if t = 102 then 3 else if t = 103 then 4 else if t = 99 then 5 else if t = 116 then 6 else if t = 108 then 7 else if t = 101 then 8 else if t = 112 then 9 else if t = 109 then 10 else if t = 106 then 11 else if t = 98 then 12 else -1
def dgVal (T : Int → Int) : Nat → Int → Int → Int
  | 0, _, v => v
  | k + 1, p, v => bif isD (T p) then dgVal T k (p + 1) (w32 (w32 (w32 (v * 10) + T p) - 48)) else v
noncomputable def bo (w a b : Int) : Int := if w = 43 then w32 (a + b) else if w = 45 then w32 (a - b) else if w = 42 then w32 (a * b) else if w = 47 then (if b = 0 then 0 else iDiv a b) else if w = 37 then (if b = 0 then 0 else iRem a b) else if w = 60 then bI (a < b) else if w = 61 then bI (a = b) else if w = 62 then bI (b < a) else if w = 38 then bI (a ≠ 0 ∧ b ≠ 0) else bI (a ≠ 0 ∨ b ≠ 0)
noncomputable def stpP (N : Int → Int) (w x : Int) (st : List Int) : List Int := if w = 1 then x :: st else if w = 2 then N x :: st else match st with
  | [] => []
  | b :: r => if w = 3 then bI (b = 0) :: r else if w = 4 then w32 (-b) :: r else match r with
    | [] => []
    | a :: r2 => bo w a b :: r2
noncomputable def run (N : Int → Int) : List (Int × Int) → List Int → List Int
  | [], st => st
  | (w, x) :: L, st => run N L (stpP N w x st)
abbrev cR : Type := Option (Int × List (Int × Int))
def cdT (r : cR) (M : List (Int × Int)) (g : Int → cR) : cR := match r with
  | none => none
  | some (q, L) => match g q with
    | none => none
    | some (q2, L2) => some (q2, L ++ (M ++ L2))
def cdF (T : Int → Int) : Nat → Nat → Int → Int → cR
  | 0, _, _, _ => none
  | k + 1, tag, o, p => match tag with
    | 0 => bif nmB (T p) then some (p + 1, [(2, nmV (T p))])
      else bif T p == 33 then (bif o == 8 then none else cdT (cdF T k 0 (o + 1) (p + 1)) [(3, 0)] (fun q => some (q, [])))
      else bif T p == 45 then (bif o == 8 then none else cdT (cdF T k 0 (o + 1) (p + 1)) [(4, 0)] (fun q => some (q, [])))
      else bif T p == 40 then (bif o == 8 then none else cdT (cdF T k 8 (o + 1) (p + 1)) [] (fun q => bif T q == 41 then some (q + 1, []) else none))
      else bif dgEnd T 6 p == p || isD (T (dgEnd T 6 p)) then none else some (dgEnd T 6 p, [(1, dgVal T 6 p 0)])
    | 1 => cdT (cdF T k 0 o p) [] (fun q => cdF T k 2 o q)
    | 2 => bif opB 2 (T p) then cdT (cdF T k 0 o (p + 1)) [(T p, 0)] (fun q => cdF T k 2 o q) else some (p, [])
    | 3 => cdT (cdF T k 1 o p) [] (fun q => cdF T k 4 o q)
    | 4 => bif opB 4 (T p) then cdT (cdF T k 1 o (p + 1)) [(T p, 0)] (fun q => cdF T k 4 o q) else some (p, [])
    | 5 => cdT (cdF T k 3 o p) [] (fun q => cdF T k 12 o q)
    | 6 => cdT (cdF T k 5 o p) [] (fun q => cdF T k 7 o q)
    | 7 => bif opB 7 (T p) then cdT (cdF T k 5 o (p + 1)) [(T p, 0)] (fun q => cdF T k 7 o q) else some (p, [])
    | 8 => cdT (cdF T k 6 o p) [] (fun q => cdF T k 9 o q)
    | 9 => bif opB 9 (T p) then cdT (cdF T k 6 o (p + 1)) [(T p, 0)] (fun q => cdF T k 9 o q) else some (p, [])
    | 12 => bif opB 12 (T p) then cdT (cdF T k 3 o (p + 1)) [(T p, 0)] (fun q => some (q, [])) else some (p, [])
    | _ => none
def Cd (T : Int → Int) (t : Nat) (o p q : Int) (L : List (Int × Int)) : Prop := ∃ k, cdF T k t o p = some (q, L)
section KD
variable {T : Int → Int} {t t1 t2 : Nat} {o p q q1 q2 : Int} {L L1 L2 : List (Int × Int)}
end KD
end
section
section VV
variable {t t1 t2 : Nat} {o : Int} {V V1 V4 V' : vS}
end VV
theorem i11 : (if (1 : Int) = 0 then (0 : Int) else 1) = 1 := rfl
end
section
-- lines: the test's code (or none) and the code
abbrev cLs : Type := List (List (Int × Int) × List (Int × Int))
def ln1 (T : Int → Int) (p q : Int) (l : List (Int × Int) × List (Int × Int)) : Prop := (l.1 = [] ∧ Cd T 8 0 p q l.2 ∧ T q ≠ 63) ∨ (∃ q1, Cd T 8 0 p q1 l.1 ∧ T q1 = 63 ∧ Cd T 8 0 (q1 + 1) q l.2)
def lnT (T : Int → Int) : Int → cLs → Prop
  | p, [] => T p ≠ 59
  | p, l :: ls => T p = 59 ∧ ∃ q, ln1 T (p + 1) q l ∧ lnT T q ls
def Lns (T : Int → Int) (p : Int) : cLs → Prop
  | [] => False
  | l :: ls => ∃ q, ln1 T p q l ∧ lnT T q ls
noncomputable def evC (N : Int → Int) (L : List (Int × Int)) : Int := (run N L []).headD 0
noncomputable def valL (N : Int → Int) : Int → cLs → Int × Int
  | _, [] => (0, -1)
  | i, (M, L) :: ls => @ite _ (M = [] ∨ evC N M ≠ 0) (Classical.propDecidable _) (evC N L, i) (valL N (i + 1) ls)
-- what a text says: of its bytes and the names
noncomputable def tSay (T N : Int → Int) : Int × Int := @dite _ (∃ ls, Lns T 0 ls) (Classical.propDecidable _) (fun h => valL N 0 (Classical.choose h)) (fun _ => (0, -1))
end
section
def tOK (V : vS) (t : Int) : Prop := pre122 V t ∧ ∃ ls, Lns (oT V t) 0 ls ∧ (ls.length : Int) ≤ 160
end
section
def f119 (V V' : vS) : Prop := ∀ (c : Nat) j, 119 ≤ c → c ≤ 123 → V' c j = V c j
end
section
-- the parts of a payment
def hel (a : Int) : Int := max 0 (min 2000000000 a)
end
section
def Nm (N : Int → Int) (s : Int) : Int → Int := fun j => if j = 10 then s else N j
def fnd (s v mj : Int) : Int := if mj = 1 then s else w32 (s - w32 (jDiv (w64 (w64 (s * (max 0 (min 100 v))) + 99)) 100))
noncomputable def fin (V : vS) (N : Int → Int) (s t : Int) : Int := if t = -1 then s else fnd s (tSay (oT V t) N).1 (N 11)
noncomputable def lin (V : vS) (N : Int → Int) (t : Int) : Int := if t = -1 then -1 else (tSay (oT V t) N).2
def R13 (V : vS) (s t y : Int) (V' : vS) : Prop := y = fin V (fun j => V 43 j) s t ∧ V' 41 7 = lin V (fun j => V 43 j) t ∧ ∀ c j, (c ≠ 33 ∨ (j < 9 ∨ 14 < j)) → (c ≠ 41 ∨ j ≠ 7) → V' c j = V c j
end
section
def TX (V : vS) : Prop := (0 ≤ V 33 7 ∧ V 33 7 ≤ 16) ∧ ∀ t, 0 ≤ t → t < V 33 7 → tOK V t
def pr8 (h : aH) (f y r : Int) : Prop := ((IV h ∧ AP (vw h)) ∧ (0 ≤ f ∧ f < 150) ∧ (0 ≤ y ∧ y ≤ 9) ∧ vw h 1 6 ≤ 200 ∧ vw h 1 4 ≤ 150) ∧ TX (vw h) ∧ (0 ≤ vw h 3 f ∧ vw h 3 f ≤ 3) ∧ (r = -1 ∨ (0 ≤ r ∧ r < vw h 33 7))
end
section
def sP (s : Int → Int) (fl m : Int) : Int := if m = 6 then fl else if m = 0 then s 5 else s m
end
section
-- ===== mix: ways, loads, worth, the first of the best =====
def sQ (g : Int → Int) : Int := g 0 + g 1 + g 2 + g 3 + g 4 + g 5 + g 6 + g 7
def adQ (f g : Int → Int) (t : Int) : Int := f t + g t
def sbQ (f g : Int → Int) (t : Int) : Int := f t - g t
def mlQ (f g : Int → Int) (t : Int) : Int := f t * g t
def odQ (t0 a t : Int) : Int := if t0 = t then a else 0
def cmQ (g o : Int → Int) (t : Int) : Int := g (o t)
theorem sQ_ad (f g : Int → Int) : sQ (adQ f g) = sQ f + sQ g := by unfold sQ adQ; omega
theorem sQ_sb (f g : Int → Int) : sQ (sbQ f g) = sQ f - sQ g := by unfold sQ sbQ; omega
theorem sQ_cg {f g : Int → Int} (h : ∀ t, 0 ≤ t → t < 8 → f t = g t) : sQ f = sQ g := by
  unfold sQ
  rw [h 0 (by decide) (by decide), h 1 (by decide) (by decide), h 2 (by decide) (by decide), h 3 (by decide) (by decide), h 4 (by decide) (by decide), h 5 (by decide) (by decide), h 6 (by decide) (by decide), h 7 (by decide) (by decide)]
theorem eiQ {t : Int} (h0 : 0 ≤ t) (h1 : t < 8) : t = 0 ∨ t = 1 ∨ t = 2 ∨ t = 3 ∨ t = 4 ∨ t = 5 ∨ t = 6 ∨ t = 7 := by omega
theorem sQ_od {t0 a : Int} (h0 : 0 ≤ t0) (h1 : t0 < 8) : sQ (odQ t0 a) = a := by
  rcases eiQ h0 h1 with rfl | rfl | rfl | rfl | rfl | rfl | rfl | rfl <;> simp [sQ, odQ]
def swQ (a b t : Int) : Int := if t = a then b else if t = b then a else t
theorem swQ_l (a b : Int) : swQ a b a = b := if_pos rfl
theorem swQ_r (a b : Int) : swQ a b b = a := by
  unfold swQ
  by_cases z : b = a
  · rw [if_pos z, z]
  · rw [if_neg z, if_pos rfl]
theorem swQ_o {a b t : Int} (n1 : t ≠ a) (n2 : t ≠ b) : swQ a b t = t := by
  unfold swQ; rw [if_neg n1, if_neg n2]
theorem swQ_i (a b t : Int) : swQ a b (swQ a b t) = t := by
  by_cases z : t = a
  · rw [z, swQ_l, swQ_r]
  · by_cases y : t = b
    · rw [y, swQ_r, swQ_l]
    · rw [swQ_o z y, swQ_o z y]
theorem swQ_b {a b t : Int} (a0 : 0 ≤ a) (a1 : a < 8) (b0 : 0 ≤ b) (b1 : b < 8) (t0 : 0 ≤ t) (t1 : t < 8) : 0 ≤ swQ a b t ∧ swQ a b t < 8 := by
  by_cases z : t = a
  · rw [z, swQ_l]; exact ⟨b0, b1⟩
  · by_cases y : t = b
    · rw [y, swQ_r]; exact ⟨a0, a1⟩
    · rw [swQ_o z y]; exact ⟨t0, t1⟩
theorem sQ_sw (g : Int → Int) {a b : Int} (n : a ≠ b) (a0 : 0 ≤ a) (a1 : a < 8) (b0 : 0 ≤ b) (b1 : b < 8) : sQ (cmQ g (swQ a b)) = sQ g := by
  have e : ∀ t, cmQ g (swQ a b) t = adQ g (adQ (odQ a (g b - g a)) (odQ b (g a - g b))) t := by
    intro t
    unfold cmQ adQ odQ
    by_cases z : t = a
    · have y : ¬ b = t := fun q => n (z.symm.trans q.symm)
      rw [if_pos z.symm, if_neg y, z, swQ_l]; omega
    · by_cases y : t = b
      · rw [if_neg (fun q => z q.symm), if_pos y.symm, y, swQ_r]; omega
      · rw [if_neg (fun q => z q.symm), if_neg (fun q => y q.symm), swQ_o z y]; omega
  rw [sQ_cg (fun t _ _ => e t), sQ_ad, sQ_ad, sQ_od a0 a1, sQ_od b0 b1]
  omega
-- an order of the crops and its ranks
def pmQ (o rk : Int → Int) : Prop := (∀ c, 0 ≤ c → c < 8 → 0 ≤ rk c ∧ rk c < 8 ∧ o (rk c) = c) ∧ ∀ t, 0 ≤ t → t < 8 → 0 ≤ o t ∧ o t < 8 ∧ rk (o t) = t
theorem pmQ_e {o rk : Int → Int} (P : pmQ o rk) {c t : Int} (c0 : 0 ≤ c) (c1 : c < 8) (t0 : 0 ≤ t) (t1 : t < 8) : c = o t ↔ rk c = t := by
  constructor
  · intro e; rw [e]; exact (P.2 t t0 t1).2.2
  · intro e; rw [← e]; exact (P.1 c c0 c1).2.2.symm
theorem sQ_po {o rk : Int → Int} (P : pmQ o rk) {c a : Int} (c0 : 0 ≤ c) (c1 : c < 8) : sQ (cmQ (odQ c a) o) = a := by
  have e : ∀ t, 0 ≤ t → t < 8 → cmQ (odQ c a) o t = odQ (rk c) a t := by
    intro t t0 t1
    unfold cmQ odQ
    by_cases z : c = o t
    · rw [if_pos z, if_pos ((pmQ_e P c0 c1 t0 t1).1 z)]
    · rw [if_neg z, if_neg (fun q => z ((pmQ_e P c0 c1 t0 t1).2 q))]
  rw [sQ_cg e]
  exact sQ_od (P.1 c c0 c1).1 (P.1 c c0 c1).2.1
theorem pmQ_id : pmQ (fun t => t) (fun t => t) := ⟨fun _ a b => ⟨a, b, rfl⟩, fun _ a b => ⟨a, b, rfl⟩⟩
-- a way's loads, its worth, the crops that it uses, its number in the order
def loQ (ar f : Int → Int) : Nat → Int → Int
  | 0, _ => 0
  | k + 1, c => loQ ar f k c + odQ (f (k : Int)) (ar (k : Int)) c
def vlQ (ar wo f : Int → Int) : Nat → Int
  | 0 => 0
  | k + 1 => vlQ ar wo f k + ar (k : Int) * wo (f (k : Int))
def smQ (ar : Int → Int) : Nat → Int
  | 0 => 0
  | k + 1 => smQ ar k + ar (k : Int)
def ucQ (x : Int) : Int := if 0 < x then 1 else 0
def unQ (ar f : Int → Int) (k : Nat) (c : Int) : Int := ucQ (loQ ar f k c)
def usQ (ar f : Int → Int) (k : Nat) : Int := sQ (unQ ar f k)
def kdQ (rk f : Int → Int) : Nat → Int
  | 0 => 0
  | k + 1 => 8 * kdQ rk f k + rk (f (k : Int))
def arQ (ar : Int → Int) (N : Nat) : Prop := ∀ j : Int, 0 ≤ j → j < (N : Int) → 1 ≤ ar j ∧ ar j ≤ 576
def rgQ (f : Int → Int) (k : Nat) : Prop := ∀ j : Int, 0 ≤ j → j < (k : Int) → 0 ≤ f j ∧ f j < 8
def egQ (f g : Int → Int) (k : Nat) : Prop := ∀ j : Int, 0 ≤ j → j < (k : Int) → f j = g j
theorem egQ_s {f g : Int → Int} (k : Nat) (e : egQ f g k) : egQ g f k := fun j a b => (e j a b).symm
theorem egQ_t {f g i : Int → Int} {k : Nat} (e : egQ f g k) (e' : egQ g i k) : egQ f i k := fun j a b => (e j a b).trans (e' j a b)
theorem egQ_m {f g : Int → Int} {k d : Nat} (e : egQ f g d) (l : k ≤ d) : egQ f g k := fun j a b => e j a (by omega)
theorem rgQ_m {f : Int → Int} {k d : Nat} (e : rgQ f d) (l : k ≤ d) : rgQ f k := fun j a b => e j a (by omega)
theorem arQ_m {f : Int → Int} {k d : Nat} (e : arQ f d) (l : k ≤ d) : arQ f k := fun j a b => e j a (by omega)
theorem loQ_cg {ar f g : Int → Int} (c : Int) : ∀ k : Nat, egQ f g k → loQ ar f k c = loQ ar g k c
  | 0, _ => rfl
  | k + 1, e => by
    show loQ ar f k c + odQ (f (k : Int)) (ar (k : Int)) c = loQ ar g k c + odQ (g (k : Int)) (ar (k : Int)) c
    rw [loQ_cg c k (egQ_m e (Nat.le_succ k)), e (k : Int) (by omega) (by omega)]
theorem vlQ_cg {ar wo f g : Int → Int} : ∀ k : Nat, egQ f g k → vlQ ar wo f k = vlQ ar wo g k
  | 0, _ => rfl
  | k + 1, e => by
    show vlQ ar wo f k + ar (k : Int) * wo (f (k : Int)) = vlQ ar wo g k + ar (k : Int) * wo (g (k : Int))
    rw [vlQ_cg k (egQ_m e (Nat.le_succ k)), e (k : Int) (by omega) (by omega)]
theorem kdQ_cg {rk f g : Int → Int} : ∀ k : Nat, egQ f g k → kdQ rk f k = kdQ rk g k
  | 0, _ => rfl
  | k + 1, e => by
    show 8 * kdQ rk f k + rk (f (k : Int)) = 8 * kdQ rk g k + rk (g (k : Int))
    rw [kdQ_cg k (egQ_m e (Nat.le_succ k)), e (k : Int) (by omega) (by omega)]
theorem usQ_cg {ar f g : Int → Int} (k : Nat) (e : egQ f g k) : usQ ar f k = usQ ar g k :=
  sQ_cg (fun c _ _ => congrArg ucQ (loQ_cg c k e))
theorem odQ_n {t0 a t : Int} (h : 0 ≤ a) : 0 ≤ odQ t0 a t := by
  unfold odQ
  by_cases z : t0 = t
  · rw [if_pos z]; exact h
  · rw [if_neg z]; exact Int.le_refl 0
theorem loQ_n {ar f : Int → Int} (c : Int) : ∀ k : Nat, arQ ar k → 0 ≤ loQ ar f k c
  | 0, _ => Int.le_refl 0
  | k + 1, A => by
    show 0 ≤ loQ ar f k c + odQ (f (k : Int)) (ar (k : Int)) c
    have a := loQ_n (f := f) c k (arQ_m A (Nat.le_succ k))
    have b := odQ_n (t0 := f (k : Int)) (a := ar (k : Int)) (t := c) (by have := A (k : Int) (by omega) (by omega); omega)
    omega
theorem loQ_m {ar f : Int → Int} (c : Int) (k : Nat) : ∀ d : Nat, arQ ar (k + d) → loQ ar f k c ≤ loQ ar f (k + d) c
  | 0, _ => Int.le_refl _
  | d + 1, A => by
    show loQ ar f k c ≤ loQ ar f (k + d) c + odQ (f ((k + d : Nat) : Int)) (ar ((k + d : Nat) : Int)) c
    have a := loQ_m (f := f) c k d (arQ_m A (Nat.le_succ (k + d)))
    have b := odQ_n (t0 := f ((k + d : Nat) : Int)) (a := ar ((k + d : Nat) : Int)) (t := c) (by have := A ((k + d : Nat) : Int) (by omega) (by omega); omega)
    omega
theorem loQ_le {ar f : Int → Int} (c : Int) {k N : Nat} (l : k ≤ N) (A : arQ ar N) : loQ ar f k c ≤ loQ ar f N c := by
  have := loQ_m (ar := ar) (f := f) c k (N - k) (by rw [Nat.add_sub_cancel' l]; exact A)
  rw [Nat.add_sub_cancel' l] at this
  exact this
theorem loQ_z {ar f : Int → Int} {c : Int} : ∀ k : Nat, arQ ar k → loQ ar f k c = 0 → ∀ j : Int, 0 ≤ j → j < (k : Int) → f j ≠ c
  | 0, _, _ => fun j a b => by omega
  | k + 1, A, e => by
    have e : loQ ar f k c + odQ (f (k : Int)) (ar (k : Int)) c = 0 := e
    have a := loQ_n (f := f) c k (arQ_m A (Nat.le_succ k))
    have p := A (k : Int) (by omega) (by omega)
    have b := odQ_n (t0 := f (k : Int)) (a := ar (k : Int)) (t := c) (by omega)
    intro j j0 j1
    by_cases z : j = (k : Int)
    · intro q
      rw [z] at q
      have : odQ (f (k : Int)) (ar (k : Int)) c = ar (k : Int) := by unfold odQ; rw [if_pos q]
      omega
    · exact loQ_z k (arQ_m A (Nat.le_succ k)) (by omega) j j0 (by omega)
theorem ucQ_a {x a : Int} (h : 0 ≤ x) (h1 : 1 ≤ a) : ucQ (x + a) = ucQ x + if x = 0 then 1 else 0 := by
  unfold ucQ
  by_cases z : x = 0
  · rw [if_pos (by omega), if_neg (by omega), if_pos z]; rfl
  · rw [if_pos (by omega), if_pos (by omega), if_neg z]; rfl
theorem usQ_s {ar f : Int → Int} {k : Nat} (A : arQ ar (k + 1)) (h0 : 0 ≤ f (k : Int)) (h1 : f (k : Int) < 8) : usQ ar f (k + 1) = usQ ar f k + if loQ ar f k (f (k : Int)) = 0 then 1 else 0 := by
  have e : ∀ c, unQ ar f (k + 1) c = adQ (unQ ar f k) (odQ (f (k : Int)) (if loQ ar f k (f (k : Int)) = 0 then 1 else 0)) c := by
    intro c
    show ucQ (loQ ar f k c + odQ (f (k : Int)) (ar (k : Int)) c) = ucQ (loQ ar f k c) + odQ (f (k : Int)) (if loQ ar f k (f (k : Int)) = 0 then 1 else 0) c
    by_cases z : f (k : Int) = c
    · have e1 : odQ (f (k : Int)) (ar (k : Int)) c = ar (k : Int) := by unfold odQ; rw [if_pos z]
      have e2 : odQ (f (k : Int)) (if loQ ar f k (f (k : Int)) = 0 then 1 else 0) c = if loQ ar f k (f (k : Int)) = 0 then 1 else 0 := by unfold odQ; rw [if_pos z]
      rw [e1, e2, z]
      exact ucQ_a (loQ_n c k (arQ_m A (Nat.le_succ k))) (A (k : Int) (by omega) (by omega)).1
    · have e1 : odQ (f (k : Int)) (ar (k : Int)) c = 0 := by unfold odQ; rw [if_neg z]
      have e2 : odQ (f (k : Int)) (if loQ ar f k (f (k : Int)) = 0 then 1 else 0) c = 0 := by unfold odQ; rw [if_neg z]
      rw [e1, e2, Int.add_zero, Int.add_zero]
  unfold usQ
  rw [sQ_cg (fun t _ _ => e t), sQ_ad, sQ_od h0 h1]
theorem usQ_l {ar f : Int → Int} (k : Nat) : ∀ d : Nat, arQ ar (k + d) → rgQ f (k + d) → usQ ar f (k + d) ≤ usQ ar f k + (d : Int)
  | 0, _, _ => by show usQ ar f k ≤ usQ ar f k + 0; omega
  | d + 1, A, G => by
    have a := usQ_l (f := f) k d (arQ_m A (Nat.le_succ (k + d))) (rgQ_m G (Nat.le_succ (k + d)))
    have g := G ((k + d : Nat) : Int) (by omega) (by omega)
    have b := usQ_s (ar := ar) (f := f) (k := k + d) A g.1 g.2
    rw [show k + (d + 1) = k + d + 1 from rfl, b]
    by_cases z : loQ ar f (k + d) (f ((k + d : Nat) : Int)) = 0
    · rw [if_pos z]; omega
    · rw [if_neg z]; omega
-- sums over the crops of loads and of what they are worth
theorem sQ_lo {ar f o rk : Int → Int} (P : pmQ o rk) : ∀ k : Nat, rgQ f k → sQ (cmQ (loQ ar f k) o) = smQ ar k
  | 0, _ => rfl
  | k + 1, G => by
    have g := G (k : Int) (by omega) (by omega)
    have e : ∀ t, cmQ (loQ ar f (k + 1)) o t = adQ (cmQ (loQ ar f k) o) (cmQ (odQ (f (k : Int)) (ar (k : Int))) o) t := fun t => rfl
    rw [sQ_cg (fun t _ _ => e t), sQ_ad, sQ_lo P k (rgQ_m G (Nat.le_succ k)), sQ_po P g.1 g.2]
    rfl
theorem sQ_lv {ar wo f o rk : Int → Int} (P : pmQ o rk) : ∀ k : Nat, rgQ f k → sQ (cmQ (mlQ (loQ ar f k) wo) o) = vlQ ar wo f k
  | 0, _ => by
    have e : ∀ t, cmQ (mlQ (loQ ar f 0) wo) o t = 0 := fun t => Int.zero_mul _
    rw [sQ_cg (g := fun _ => 0) (fun t _ _ => e t)]; rfl
  | k + 1, G => by
    have g := G (k : Int) (by omega) (by omega)
    have e : ∀ t, cmQ (mlQ (loQ ar f (k + 1)) wo) o t = adQ (cmQ (mlQ (loQ ar f k) wo) o) (cmQ (odQ (f (k : Int)) (ar (k : Int) * wo (f (k : Int)))) o) t := by
      intro t
      show (loQ ar f k (o t) + odQ (f (k : Int)) (ar (k : Int)) (o t)) * wo (o t) = loQ ar f k (o t) * wo (o t) + odQ (f (k : Int)) (ar (k : Int) * wo (f (k : Int))) (o t)
      rw [Int.add_mul]
      unfold odQ
      by_cases z : f (k : Int) = o t
      · rw [if_pos z, if_pos z, z]
      · rw [if_neg z, if_neg z, Int.zero_mul]
    rw [sQ_cg (fun t _ _ => e t), sQ_ad, sQ_lv P k (rgQ_m G (Nat.le_succ k)), sQ_po P g.1 g.2]
    rfl
end
section
-- ===== mix: the bound, the ways from a place on =====
def tlQ (g : Int → Int) : Nat → Int → Int
  | 0, _ => 0
  | k + 1, i => g i + tlQ g k (i + 1)
theorem tlQ_8 (g : Int → Int) : tlQ g 8 0 = sQ g := by
  show g 0 + (g (0 + 1) + (g (0 + 1 + 1) + (g (0 + 1 + 1 + 1) + (g (0 + 1 + 1 + 1 + 1) + (g (0 + 1 + 1 + 1 + 1 + 1) + (g (0 + 1 + 1 + 1 + 1 + 1 + 1) + (g (0 + 1 + 1 + 1 + 1 + 1 + 1 + 1) + 0))))))) = sQ g
  simp only [Int.reduceAdd]
  unfold sQ
  omega
def grQ (C U : Int → Int) : Nat → Int → Int → Int → Int
  | 0, _, m, r => if r ≤ 0 then m else -1
  | k + 1, i, m, r => if r ≤ 0 then m else grQ C U k (i + 1) (m + min r (C i) * U i) (r - min r (C i))
theorem tlQ_w {X U : Int → Int} (HX : ∀ t, 0 ≤ t → t < 8 → 0 ≤ X t) (HU : ∀ t, 0 ≤ t → t + 1 < 8 → U (t + 1) ≤ U t) : ∀ (k : Nat) (i W : Int), i + (k : Int) = 8 → 0 ≤ i → (k ≠ 0 → U i ≤ W) → tlQ (mlQ X U) k i ≤ tlQ X k i * W
  | 0, i, W, _, _, _ => by show (0 : Int) ≤ 0 * W; rw [Int.zero_mul]; exact Int.le_refl 0
  | k + 1, i, W, e, i0, hW => by
    have hW := hW (Nat.succ_ne_zero k)
    have a := tlQ_w HX HU k (i + 1) W (by omega) (by omega) (fun z => Int.le_trans (HU i i0 (by omega)) hW)
    have b : X i * U i ≤ X i * W := Int.mul_le_mul_of_nonneg_left hW (HX i i0 (by omega))
    show X i * U i + tlQ (mlQ X U) k (i + 1) ≤ (X i + tlQ X k (i + 1)) * W
    rw [Int.add_mul]
    omega
theorem tlQ_n {X : Int → Int} (HX : ∀ t, 0 ≤ t → t < 8 → 0 ≤ X t) : ∀ (k : Nat) (i : Int), i + (k : Int) = 8 → 0 ≤ i → 0 ≤ tlQ X k i
  | 0, _, _, _ => Int.le_refl 0
  | k + 1, i, e, i0 => by
    have a := tlQ_n HX k (i + 1) (by omega) (by omega)
    have b := HX i i0 (by omega)
    show 0 ≤ X i + tlQ X k (i + 1)
    omega
theorem grQ_ok {C U X : Int → Int} (HX : ∀ t, 0 ≤ t → t < 8 → 0 ≤ X t ∧ X t ≤ C t) (HU : ∀ t, 0 ≤ t → t + 1 < 8 → U (t + 1) ≤ U t) {Y : Int} : ∀ (k : Nat) (i m r W : Int), i + (k : Int) = 8 → 0 ≤ i → 0 ≤ r → r ≤ tlQ X k i → (k ≠ 0 → U i ≤ W) → Y ≤ m + tlQ (mlQ X U) k i - (tlQ X k i - r) * W → Y ≤ grQ C U k i m r
  | 0, i, m, r, W, _, _, r0, r1, _, hY => by
    have r1 : r ≤ 0 := r1
    have hY : Y ≤ m + 0 - (0 - r) * W := hY
    have z : r = 0 := by omega
    subst z
    show Y ≤ if (0 : Int) ≤ 0 then m else -1
    rw [if_pos (Int.le_refl 0)]
    rw [Int.sub_zero, Int.zero_mul] at hY
    omega
  | k + 1, i, m, r, W, e, i0, r0, r1, hW, hY => by
    have hW := hW (Nat.succ_ne_zero k)
    have x := HX i i0 (by omega)
    have HX0 : ∀ t, 0 ≤ t → t < 8 → 0 ≤ X t := fun t a b => (HX t a b).1
    show Y ≤ if r ≤ 0 then m else grQ C U k (i + 1) (m + min r (C i) * U i) (r - min r (C i))
    by_cases z : r ≤ 0
    · rw [if_pos z]
      have z : r = 0 := by omega
      subst z
      have a := tlQ_w HX0 HU (k + 1) i W e i0 (fun _ => hW)
      rw [Int.sub_zero] at hY
      omega
    · rw [if_neg z]
      have r1 : r ≤ X i + tlQ X k (i + 1) := r1
      have hY : Y ≤ m + (X i * U i + tlQ (mlQ X U) k (i + 1)) - (X i + tlQ X k (i + 1) - r) * W := hY
      have n1 := tlQ_n HX0 k (i + 1) (by omega) (by omega)
      have s1 : (X i + tlQ X k (i + 1) - r) * U i ≤ (X i + tlQ X k (i + 1) - r) * W := Int.mul_le_mul_of_nonneg_left hW (by omega)
      have p0 : min r (C i) ≤ r := by omega
      have p1 : min r (C i) = r ∨ X i ≤ min r (C i) := by omega
      generalize min r (C i) = p at p0 p1 ⊢
      refine grQ_ok HX HU k (i + 1) (m + p * U i) (r - p) (U i) (by omega) (by omega) (by omega) (by omega) (fun q => HU i i0 (by omega)) ?_
      have e1 : (X i + tlQ X k (i + 1) - r) * U i = X i * U i + tlQ X k (i + 1) * U i - r * U i := by rw [Int.sub_mul, Int.add_mul]
      have e2 : (tlQ X k (i + 1) - (r - p)) * U i = tlQ X k (i + 1) * U i - (r * U i - p * U i) := by rw [Int.sub_mul, Int.sub_mul]
      rw [e2]
      rw [e1] at s1
      generalize X i * U i = v1 at *
      generalize tlQ X k (i + 1) * U i = v2 at *
      generalize r * U i = v3 at *
      generalize p * U i = v4 at *
      generalize (X i + tlQ X k (i + 1) - r) * W = v5 at *
      omega
-- what a way must keep; the ways that begin as one given
def feQ (ar : Int → Int) (N : Nat) (R q : Int) (f : Int → Int) : Prop := rgQ f N ∧ (∀ c, 0 ≤ c → c < 8 → loQ ar f N c ≤ R) ∧ q ≤ usQ ar f N
def ndQ (ar : Int → Int) (N : Nat) (R q : Int) (k : Nat) (wy f : Int → Int) : Prop := feQ ar N R q f ∧ egQ f wy k
theorem bdQ {ar wo wy o rk f : Int → Int} {N k : Nat} {R q : Int} (A : arQ ar N) (l : k ≤ N) (P : pmQ o rk) (HU : ∀ t, 0 ≤ t → t + 1 < 8 → wo (o (t + 1)) ≤ wo (o t)) (F : ndQ ar N R q k wy f) : vlQ ar wo f N ≤ grQ (fun t => R - loQ ar wy k (o t)) (fun t => wo (o t)) 8 0 (vlQ ar wo wy k) (smQ ar N - smQ ar k) := by
  obtain ⟨⟨G, H, -⟩, E⟩ := F
  have X1 : sQ (cmQ (sbQ (loQ ar f N) (loQ ar f k)) o) = smQ ar N - smQ ar k := by
    have e : ∀ t, cmQ (sbQ (loQ ar f N) (loQ ar f k)) o t = sbQ (cmQ (loQ ar f N) o) (cmQ (loQ ar f k) o) t := fun t => rfl
    rw [sQ_cg (fun t _ _ => e t), sQ_sb, sQ_lo P N G, sQ_lo P k (rgQ_m G l)]
  have X2 : sQ (mlQ (cmQ (sbQ (loQ ar f N) (loQ ar f k)) o) (fun t => wo (o t))) = vlQ ar wo f N - vlQ ar wo f k := by
    have e : ∀ t, mlQ (cmQ (sbQ (loQ ar f N) (loQ ar f k)) o) (fun t => wo (o t)) t = sbQ (cmQ (mlQ (loQ ar f N) wo) o) (cmQ (mlQ (loQ ar f k) wo) o) t := fun t => Int.sub_mul _ _ _
    rw [sQ_cg (fun t _ _ => e t), sQ_sb, sQ_lv P N G, sQ_lv P k (rgQ_m G l)]
  have V := vlQ_cg (ar := ar) (wo := wo) k E
  have T : smQ ar N - smQ ar k = tlQ (cmQ (sbQ (loQ ar f N) (loQ ar f k)) o) 8 0 := by rw [tlQ_8, X1]
  have n0 : 0 ≤ smQ ar N - smQ ar k := by
    rw [T]
    exact tlQ_n (fun t a b => by have := loQ_le (ar := ar) (f := f) (o t) l A; show 0 ≤ loQ ar f N (o t) - loQ ar f k (o t); omega) 8 0 rfl (Int.le_refl 0)
  refine grQ_ok (X := cmQ (sbQ (loQ ar f N) (loQ ar f k)) o) (fun t a b => ?_) HU 8 0 _ _ (wo (o 0)) rfl (Int.le_refl 0) n0 (by rw [← T]; exact Int.le_refl _) (fun _ => Int.le_refl _) ?_
  · have p := P.2 t a b
    have q1 := loQ_le (ar := ar) (f := f) (o t) l A
    have q2 := H (o t) p.1 p.2.1
    have q3 := loQ_cg (ar := ar) (o t) k E
    show 0 ≤ loQ ar f N (o t) - loQ ar f k (o t) ∧ loQ ar f N (o t) - loQ ar f k (o t) ≤ R - loQ ar wy k (o t)
    omega
  · rw [← T, tlQ_8, X2, Int.sub_self, Int.zero_mul]
    omega
-- the first of the best
def rsQ (ar wo rk : Int → Int) (N : Nat) (A : (Int → Int) → Prop) (m : Int) (b : Int → Int) (m' : Int) (b' : Int → Int) : Prop :=
  (m' = m ∧ egQ b' b N ∧ ∀ f, A f → vlQ ar wo f N ≤ m) ∨ (m < m' ∧ (∃ f, A f ∧ vlQ ar wo f N = m' ∧ egQ b' f N) ∧ ∀ f, A f → vlQ ar wo f N ≤ m' ∧ (vlQ ar wo f N = m' → kdQ rk b' N ≤ kdQ rk f N))
theorem rsQ_l {ar wo rk : Int → Int} {N : Nat} {A : (Int → Int) → Prop} {m : Int} {b : Int → Int} (h : ∀ f, A f → vlQ ar wo f N ≤ m) : rsQ ar wo rk N A m b m b := Or.inl ⟨rfl, fun _ _ _ => rfl, h⟩
theorem rsQ_s {ar wo rk : Int → Int} {N : Nat} {A B C : (Int → Int) → Prop} {m m1 m2 : Int} {b b1 b2 : Int → Int} (r1 : rsQ ar wo rk N A m b m1 b1) (r2 : rsQ ar wo rk N B m1 b1 m2 b2) (hC : ∀ f, C f → A f ∨ B f) (hA : ∀ f, A f → C f) (hB : ∀ f, B f → C f) (hk : ∀ f g, A f → B g → kdQ rk f N ≤ kdQ rk g N) : rsQ ar wo rk N C m b m2 b2 := by
  rcases r1 with ⟨e1, g1, u1⟩ | ⟨l1, ⟨f1, a1, v1, w1⟩, u1⟩
  · rcases r2 with ⟨e2, g2, u2⟩ | ⟨l2, ⟨f2, a2, v2, w2⟩, u2⟩
    · exact Or.inl ⟨e2.trans e1, egQ_t g2 g1, fun f c => (hC f c).elim (u1 f) (fun z => e1 ▸ u2 f z)⟩
    · refine Or.inr ⟨by omega, ⟨f2, hB f2 a2, v2, w2⟩, fun f c => ?_⟩
      rcases hC f c with z | z
      · have := u1 f z
        exact ⟨by omega, fun q => by omega⟩
      · exact u2 f z
  · rcases r2 with ⟨e2, g2, u2⟩ | ⟨l2, ⟨f2, a2, v2, w2⟩, u2⟩
    · refine Or.inr ⟨by omega, ⟨f1, hA f1 a1, by omega, egQ_t g2 w1⟩, fun f c => ?_⟩
      have k2 := kdQ_cg (rk := rk) N g2
      have k1 := kdQ_cg (rk := rk) N w1
      rcases hC f c with z | z
      · have := u1 f z
        exact ⟨by omega, fun q => by rw [k2]; exact this.2 (by omega)⟩
      · have := u2 f z
        exact ⟨by omega, fun q => by rw [k2, k1]; exact hk f1 f a1 z⟩
    · refine Or.inr ⟨by omega, ⟨f2, hB f2 a2, v2, w2⟩, fun f c => ?_⟩
      rcases hC f c with z | z
      · have := (u1 f z).1
        exact ⟨by omega, fun q => by omega⟩
      · exact u2 f z
theorem rsQ_c {ar wo rk : Int → Int} {N : Nat} {A B : (Int → Int) → Prop} {m m' : Int} {b b' : Int → Int} (r : rsQ ar wo rk N A m b m' b') (hB : ∀ f, B f → ∃ g, A g ∧ vlQ ar wo g N = vlQ ar wo f N ∧ kdQ rk g N ≤ kdQ rk f N) (hA : ∀ f, A f → B f) : rsQ ar wo rk N B m b m' b' := by
  rcases r with ⟨e, g, u⟩ | ⟨l, ⟨f0, a0, v0, w0⟩, u⟩
  · refine Or.inl ⟨e, g, fun f z => ?_⟩
    obtain ⟨g, ag, vg, -⟩ := hB f z
    have := u g ag
    omega
  · refine Or.inr ⟨l, ⟨f0, hA f0 a0, v0, w0⟩, fun f z => ?_⟩
    obtain ⟨g, ag, vg, kg⟩ := hB f z
    have := u g ag
    exact ⟨by omega, fun q => Int.le_trans (this.2 (by omega)) kg⟩
theorem kdQ_r {rk f : Int → Int} (hr : ∀ c, 0 ≤ c → c < 8 → 0 ≤ rk c ∧ rk c < 8) {N k : Nat} (l : k < N) (G : rgQ f N) : 0 ≤ rk (f (k : Int)) ∧ rk (f (k : Int)) < 8 :=
  hr _ (G (k : Int) (by omega) (by omega)).1 (G (k : Int) (by omega) (by omega)).2
theorem kdQ_l {rk f g : Int → Int} (hr : ∀ c, 0 ≤ c → c < 8 → 0 ≤ rk c ∧ rk c < 8) {k : Nat} (E : egQ f g k) (lt : rk (f (k : Int)) < rk (g (k : Int))) : ∀ d : Nat, rgQ f (k + 1 + d) → rgQ g (k + 1 + d) → kdQ rk f (k + 1 + d) < kdQ rk g (k + 1 + d)
  | 0, _, _ => by
    show 8 * kdQ rk f k + rk (f (k : Int)) < 8 * kdQ rk g k + rk (g (k : Int))
    rw [kdQ_cg k E]; omega
  | d + 1, F, G => by
    have a := kdQ_l hr E lt d (rgQ_m F (Nat.le_succ (k + 1 + d))) (rgQ_m G (Nat.le_succ (k + 1 + d)))
    have b := kdQ_r hr (Nat.lt_succ_self (k + 1 + d)) F
    have c := kdQ_r hr (Nat.lt_succ_self (k + 1 + d)) G
    show 8 * kdQ rk f (k + 1 + d) + rk (f ((k + 1 + d : Nat) : Int)) < 8 * kdQ rk g (k + 1 + d) + rk (g ((k + 1 + d : Nat) : Int))
    omega
theorem kdQ_lt {rk f g : Int → Int} (hr : ∀ c, 0 ≤ c → c < 8 → 0 ≤ rk c ∧ rk c < 8) {k N : Nat} (l : k < N) (E : egQ f g k) (lt : rk (f (k : Int)) < rk (g (k : Int))) (F : rgQ f N) (G : rgQ g N) : kdQ rk f N < kdQ rk g N := by
  have e : k + 1 + (N - (k + 1)) = N := by omega
  have := kdQ_l hr E lt (N - (k + 1)) (by rw [e]; exact F) (by rw [e]; exact G)
  rw [e] at this
  exact this
theorem kdQ_u {f g : Int → Int} : ∀ k : Nat, rgQ f k → rgQ g k → kdQ (fun t => t) f k = kdQ (fun t => t) g k → egQ f g k
  | 0, _, _, _ => fun j a b => by omega
  | k + 1, F, G, e => by
    have e : 8 * kdQ (fun t => t) f k + f (k : Int) = 8 * kdQ (fun t => t) g k + g (k : Int) := e
    have a := F (k : Int) (by omega) (by omega)
    have b := G (k : Int) (by omega) (by omega)
    have E := kdQ_u k (rgQ_m F (Nat.le_succ k)) (rgQ_m G (Nat.le_succ k)) (by omega)
    intro j j0 j1
    by_cases z : j = (k : Int)
    · rw [z]; omega
    · exact E j j0 (by omega)
end
section
-- ===== mix: the steps of the search =====
theorem rsQ_uni {ar wo : Int → Int} {N : Nat} {A : (Int → Int) → Prop} (hA : ∀ f, A f → rgQ f N) {m m1 m2 : Int} {b b' b1 b2 : Int → Int} (r1 : rsQ ar wo (fun t => t) N A m b m1 b1) (r2 : rsQ ar wo (fun t => t) N A m b' m2 b2) : m1 = m2 ∧ (m < m1 → egQ b1 b2 N) := by
  rcases r1 with ⟨e1, g1, u1⟩ | ⟨l1, ⟨f1, a1, v1, w1⟩, u1⟩
  · rcases r2 with ⟨e2, g2, u2⟩ | ⟨l2, ⟨f2, a2, v2, w2⟩, u2⟩
    · exact ⟨by omega, fun q => by omega⟩
    · have := u1 f2 a2; omega
  · rcases r2 with ⟨e2, g2, u2⟩ | ⟨l2, ⟨f2, a2, v2, w2⟩, u2⟩
    · have := u2 f1 a1; omega
    · have p1 := u1 f2 a2
      have p2 := u2 f1 a1
      have k1 := kdQ_cg (rk := fun t => t) N w1
      have k2 := kdQ_cg (rk := fun t => t) N w2
      have q1 := p1.2 (by omega)
      have q2 := p2.2 (by omega)
      exact ⟨by omega, fun _ => egQ_t w1 (egQ_t (kdQ_u N (hA f1 a1) (hA f2 a2) (by omega)) (egQ_s N w2))⟩
theorem loQ_sw {ar f : Int → Int} {a b : Int} (t : Int) : ∀ k : Nat, loQ ar (fun j => swQ a b (f j)) k t = loQ ar f k (swQ a b t)
  | 0 => rfl
  | k + 1 => by
    show loQ ar (fun j => swQ a b (f j)) k t + odQ (swQ a b (f (k : Int))) (ar (k : Int)) t = loQ ar f k (swQ a b t) + odQ (f (k : Int)) (ar (k : Int)) (swQ a b t)
    rw [loQ_sw t k]
    unfold odQ
    by_cases z : swQ a b (f (k : Int)) = t
    · have y : f (k : Int) = swQ a b t := by rw [← z, swQ_i]
      rw [if_pos z, if_pos y]
    · have y : ¬ f (k : Int) = swQ a b t := fun q => z (by rw [q, swQ_i])
      rw [if_neg z, if_neg y]
theorem vlQ_sw {ar wo f : Int → Int} {a b : Int} (e : wo a = wo b) : ∀ k : Nat, vlQ ar wo (fun j => swQ a b (f j)) k = vlQ ar wo f k
  | 0 => rfl
  | k + 1 => by
    show vlQ ar wo (fun j => swQ a b (f j)) k + ar (k : Int) * wo (swQ a b (f (k : Int))) = vlQ ar wo f k + ar (k : Int) * wo (f (k : Int))
    have y : wo (swQ a b (f (k : Int))) = wo (f (k : Int)) := by
      by_cases z : f (k : Int) = a
      · rw [z, swQ_l, e]
      · by_cases x : f (k : Int) = b
        · rw [x, swQ_r, e]
        · rw [swQ_o z x]
    rw [vlQ_sw e k, y]
theorem usQ_sw {ar f : Int → Int} {a b : Int} (n : a ≠ b) (a0 : 0 ≤ a) (a1 : a < 8) (b0 : 0 ≤ b) (b1 : b < 8) (k : Nat) : usQ ar (fun j => swQ a b (f j)) k = usQ ar f k := by
  unfold usQ
  rw [← sQ_sw (unQ ar f k) n a0 a1 b0 b1]
  exact sQ_cg (fun t _ _ => congrArg ucQ (loQ_sw t k))
theorem cvQ {ar wo rk wy f : Int → Int} {N k : Nat} {R q a b : Int} (A : arQ ar N) (hr : ∀ c, 0 ≤ c → c < 8 → 0 ≤ rk c ∧ rk c < 8) (l : k < N) (a0 : 0 ≤ a) (a1 : a < 8) (b0 : 0 ≤ b) (b1 : b < 8) (la : loQ ar wy k a = 0) (lb : loQ ar wy k b = 0) (w : wo a = wo b) (lt : rk b < rk a) (F : ndQ ar N R q k wy f) (e : f (k : Int) = a) : ∃ g, (ndQ ar N R q k wy g ∧ g (k : Int) = b) ∧ vlQ ar wo g N = vlQ ar wo f N ∧ kdQ rk g N ≤ kdQ rk f N := by
  obtain ⟨⟨G, H, U⟩, E⟩ := F
  have n : a ≠ b := fun z => by rw [z] at lt; omega
  have Ak := arQ_m A (Nat.le_of_lt l)
  have za := loQ_z k Ak (by rw [loQ_cg a k E]; exact la)
  have zb := loQ_z k Ak (by rw [loQ_cg b k E]; exact lb)
  have E2 : egQ (fun j => swQ a b (f j)) f k := fun j j0 j1 => swQ_o (za j j0 j1) (zb j j0 j1)
  have G2 : rgQ (fun j => swQ a b (f j)) N := fun j j0 j1 => swQ_b a0 a1 b0 b1 (G j j0 j1).1 (G j j0 j1).2
  have ek : swQ a b (f (k : Int)) = b := by rw [e, swQ_l]
  refine ⟨fun j => swQ a b (f j), ⟨⟨⟨G2, fun c c0 c1 => ?_, ?_⟩, egQ_t E2 E⟩, ek⟩, vlQ_sw w N, Int.le_of_lt (kdQ_lt hr l E2 ?_ G2 G)⟩
  · rw [loQ_sw]
    exact H _ (swQ_b a0 a1 b0 b1 c0 c1).1 (swQ_b a0 a1 b0 b1 c0 c1).2
  · rw [usQ_sw n a0 a1 b0 b1]; exact U
  · show rk (swQ a b (f (k : Int))) < rk (f (k : Int))
    rw [ek, e]; exact lt
-- the ways through the crops of rank below i
def lpQ (ar : Int → Int) (N : Nat) (R q : Int) (k : Nat) (wy rk : Int → Int) (i : Int) (f : Int → Int) : Prop := ndQ ar N R q k wy f ∧ rk (f (k : Int)) < i
section LPQ
variable {ar wo wy o rk : Int → Int} {N k : Nat} {R q i m m' m'' : Int} {b b' b'' : Int → Int}
theorem lpQ_0 (hr : ∀ c, 0 ≤ c → c < 8 → 0 ≤ rk c ∧ rk c < 8) (l : k < N) : rsQ ar wo rk N (lpQ ar N R q k wy rk 0) m b m b :=
  rsQ_l (fun f F => by have := kdQ_r hr l F.1.1.1; have := F.2; omega)
theorem lpQ_8 (hr : ∀ c, 0 ≤ c → c < 8 → 0 ≤ rk c ∧ rk c < 8) (l : k < N) (r : rsQ ar wo rk N (lpQ ar N R q k wy rk 8) m b m' b') : rsQ ar wo rk N (ndQ ar N R q k wy) m b m' b' :=
  rsQ_c r (fun f F => ⟨f, ⟨F, (kdQ_r hr l F.1.1).2⟩, rfl, Int.le_refl _⟩) (fun f F => F.1)
theorem lpQ_f (A : arQ ar N) (P : pmQ o rk) (i0 : 0 ≤ i) (i1 : i < 8) (l : k < N) (h : R < loQ ar wy k (o i) + ar (k : Int)) (r : rsQ ar wo rk N (lpQ ar N R q k wy rk i) m b m' b') : rsQ ar wo rk N (lpQ ar N R q k wy rk (i + 1)) m b m' b' := by
  refine rsQ_c r (fun f F => ⟨f, ⟨F.1, ?_⟩, rfl, Int.le_refl _⟩) (fun f F => ⟨F.1, by have := F.2; omega⟩)
  have g := F.1.1.1 (k : Int) (by omega) (by omega)
  have p := P.2 i i0 i1
  by_cases z : rk (f (k : Int)) = i
  · have e : f (k : Int) = o i := (pmQ_e P g.1 g.2 i0 i1).2 z
    have a1 : loQ ar f (k + 1) (o i) = loQ ar f k (o i) + odQ (f (k : Int)) (ar (k : Int)) (o i) := rfl
    have a2 : odQ (f (k : Int)) (ar (k : Int)) (o i) = ar (k : Int) := by unfold odQ; rw [if_pos e]
    have a3 := loQ_le (ar := ar) (f := f) (o i) (Nat.succ_le_of_lt l) A
    have a4 := F.1.1.2.1 (o i) p.1 p.2.1
    have a5 := loQ_cg (ar := ar) (o i) k F.1.2
    have a3 : loQ ar f (k + 1) (o i) ≤ loQ ar f N (o i) := a3
    omega
  · have := F.2; omega
theorem lpQ_u (A : arQ ar N) (P : pmQ o rk) (i0 : 0 ≤ i) (i1 : i < 8) (l : k < N) {j : Int} (j0 : 0 ≤ j) (j1 : j < i) (la : loQ ar wy k (o i) = 0) (lb : loQ ar wy k (o j) = 0) (w : wo (o i) = wo (o j)) (r : rsQ ar wo rk N (lpQ ar N R q k wy rk i) m b m' b') : rsQ ar wo rk N (lpQ ar N R q k wy rk (i + 1)) m b m' b' := by
  have hr : ∀ c, 0 ≤ c → c < 8 → 0 ≤ rk c ∧ rk c < 8 := fun c c0 c1 => ⟨(P.1 c c0 c1).1, (P.1 c c0 c1).2.1⟩
  refine rsQ_c r (fun f F => ?_) (fun f F => ⟨F.1, by have := F.2; omega⟩)
  have g := F.1.1.1 (k : Int) (by omega) (by omega)
  have p := P.2 i i0 i1
  have p' := P.2 j j0 (by omega)
  by_cases z : rk (f (k : Int)) = i
  · have e : f (k : Int) = o i := (pmQ_e P g.1 g.2 i0 i1).2 z
    obtain ⟨g, ⟨g1, g2⟩, g3, g4⟩ := cvQ A hr l p.1 p.2.1 p'.1 p'.2.1 la lb w (by rw [p.2.2, p'.2.2]; exact j1) F.1 e
    exact ⟨g, ⟨g1, by rw [g2, p'.2.2]; exact j1⟩, g3, g4⟩
  · exact ⟨f, ⟨F.1, by have := F.2; omega⟩, rfl, Int.le_refl _⟩
theorem lpQ_t (P : pmQ o rk) (i0 : 0 ≤ i) (i1 : i < 8) (l : k < N) {wy' : Int → Int} (E : egQ wy' wy k) (e : wy' (k : Int) = o i) (r : rsQ ar wo rk N (lpQ ar N R q k wy rk i) m b m' b') (r2 : rsQ ar wo rk N (ndQ ar N R q (k + 1) wy') m' b' m'' b'') : rsQ ar wo rk N (lpQ ar N R q k wy rk (i + 1)) m b m'' b'' := by
  have hr : ∀ c, 0 ≤ c → c < 8 → 0 ≤ rk c ∧ rk c < 8 := fun c c0 c1 => ⟨(P.1 c c0 c1).1, (P.1 c c0 c1).2.1⟩
  have p := P.2 i i0 i1
  have B1 : ∀ f, ndQ ar N R q (k + 1) wy' f → egQ f wy k ∧ f (k : Int) = o i := fun f F =>
    ⟨egQ_t (egQ_m F.2 (Nat.le_succ k)) E, (F.2 (k : Int) (by omega) (by omega)).trans e⟩
  refine rsQ_s r r2 (fun f F => ?_) (fun f F => ⟨F.1, by have := F.2; omega⟩) (fun f F => ⟨⟨F.1, (B1 f F).1⟩, by rw [(B1 f F).2, p.2.2]; omega⟩) (fun f g F G => ?_)
  · have g := F.1.1.1 (k : Int) (by omega) (by omega)
    by_cases z : rk (f (k : Int)) = i
    · have ef : f (k : Int) = o i := (pmQ_e P g.1 g.2 i0 i1).2 z
      refine Or.inr ⟨F.1.1, fun j j0 j1 => ?_⟩
      by_cases y : j = (k : Int)
      · rw [y, ef, e]
      · exact (F.1.2 j j0 (by omega)).trans (E j j0 (by omega)).symm
    · exact Or.inl ⟨F.1, by have := F.2; omega⟩
  · refine Int.le_of_lt (kdQ_lt hr l (egQ_t F.1.2 (egQ_s k (B1 g G).1)) ?_ F.1.1.1 G.1.1)
    rw [(B1 g G).2, p.2.2]; exact F.2
theorem ndQ_u (A : arQ ar N) (l : k ≤ N) (h : usQ ar wy k + (N : Int) - (k : Int) < q) : rsQ ar wo rk N (ndQ ar N R q k wy) m b m b := by
  refine rsQ_l (fun f F => ?_)
  have a := usQ_l (ar := ar) (f := f) k (N - k) (by rw [Nat.add_sub_cancel' l]; exact A) (by rw [Nat.add_sub_cancel' l]; exact F.1.1)
  rw [Nat.add_sub_cancel' l, usQ_cg k F.2] at a
  have b := F.1.2.2
  omega
theorem ndQ_b (A : arQ ar N) (l : k ≤ N) {o2 rk2 : Int → Int} (P : pmQ o2 rk2) (HU : ∀ t, 0 ≤ t → t + 1 < 8 → wo (o2 (t + 1)) ≤ wo (o2 t)) (h : grQ (fun t => R - loQ ar wy k (o2 t)) (fun t => wo (o2 t)) 8 0 (vlQ ar wo wy k) (smQ ar N - smQ ar k) ≤ m) : rsQ ar wo rk N (ndQ ar N R q k wy) m b m b :=
  rsQ_l (fun f F => Int.le_trans (bdQ A l P HU F) h)
theorem ndQ_e (G : rgQ wy N) (H : ∀ c, 0 ≤ c → c < 8 → loQ ar wy N c ≤ R) (U : q ≤ usQ ar wy N) (h : m < vlQ ar wo wy N) (E : egQ b' wy N) : rsQ ar wo rk N (ndQ ar N R q N wy) m b (vlQ ar wo wy N) b' := by
  refine Or.inr ⟨h, ⟨wy, ⟨⟨G, H, U⟩, fun _ _ _ => rfl⟩, rfl, E⟩, fun f F => ?_⟩
  have e := vlQ_cg (ar := ar) (wo := wo) N F.2
  have k1 := kdQ_cg (rk := rk) N F.2
  have k2 := kdQ_cg (rk := rk) N E
  exact ⟨by omega, fun _ => by omega⟩
theorem ndQ_w (h : vlQ ar wo wy N ≤ m) : rsQ ar wo rk N (ndQ ar N R q N wy) m b m b :=
  rsQ_l (fun f F => by have := vlQ_cg (ar := ar) (wo := wo) N F.2; omega)
theorem ndQ_0 (r : rsQ ar wo rk N (ndQ ar N R q 0 wy) m b m' b') : rsQ ar wo rk N (feQ ar N R q) m b m' b' :=
  rsQ_c r (fun f F => ⟨f, ⟨F, fun j j0 j1 => by omega⟩, rfl, Int.le_refl _⟩) (fun f F => F.1)
end LPQ
theorem rsQ_two {ar wo rk : Int → Int} {N : Nat} {A : (Int → Int) → Prop} (h0 : ∀ f, A f → 0 ≤ vlQ ar wo f N) (h1 : ∃ f, A f) {m1 m2 : Int} {b b1 b2 : Int → Int} (r1 : rsQ ar wo rk N A (-1) b m1 b1) (r2 : rsQ ar wo (fun t => t) N A (m1 - 1) b1 m2 b2) : 0 ≤ m2 ∧ rsQ ar wo (fun t => t) N A (-1) b m2 b2 := by
  obtain ⟨f0, a0⟩ := h1
  have v0 := h0 f0 a0
  rcases r1 with ⟨e1, g1, u1⟩ | ⟨l1, ⟨f1, a1, v1, w1⟩, u1⟩
  · have := u1 f0 a0; omega
  · rcases r2 with ⟨e2, g2, u2⟩ | ⟨l2, ⟨f2, a2, v2, w2⟩, u2⟩
    · have := u2 f1 a1; omega
    · have := h0 f2 a2
      exact ⟨by omega, Or.inr ⟨by omega, ⟨f2, a2, v2, w2⟩, u2⟩⟩
theorem vlQ_n {ar wo f : Int → Int} (W : ∀ c, 0 ≤ c → c < 8 → 0 ≤ wo c) : ∀ k : Nat, arQ ar k → rgQ f k → 0 ≤ vlQ ar wo f k
  | 0, _, _ => Int.le_refl 0
  | k + 1, A, G => by
    have a := vlQ_n W k (arQ_m A (Nat.le_succ k)) (rgQ_m G (Nat.le_succ k))
    have g := G (k : Int) (by omega) (by omega)
    have p := A (k : Int) (by omega) (by omega)
    have := Int.mul_nonneg (a := ar (k : Int)) (b := wo (f (k : Int))) (by omega) (W _ g.1 g.2)
    show 0 ≤ vlQ ar wo f k + ar (k : Int) * wo (f (k : Int))
    omega
theorem loQ_id {ar : Int → Int} (c : Int) : ∀ k : Nat, loQ ar (fun t => t) k c = if 0 ≤ c ∧ c < (k : Int) then ar c else 0
  | 0 => by rw [if_neg (by omega)]; rfl
  | k + 1 => by
    show loQ ar (fun t => t) k c + odQ (k : Int) (ar (k : Int)) c = _
    rw [loQ_id c k]
    unfold odQ
    by_cases z : (k : Int) = c
    · rw [if_neg (by omega), if_pos z, if_pos (by omega), z]; omega
    · rw [if_neg z]
      by_cases y : 0 ≤ c ∧ c < (k : Int)
      · rw [if_pos y, if_pos (by omega)]; omega
      · rw [if_neg y, if_neg (by omega)]; rfl
theorem usQ_id {ar : Int → Int} : ∀ k : Nat, k ≤ 8 → arQ ar k → usQ ar (fun t => t) k = (k : Int)
  | 0, _, _ => rfl
  | k + 1, l, A => by
    have e := usQ_s (ar := ar) (f := fun t => t) (k := k) A (by show (0 : Int) ≤ (k : Int); omega) (by show (k : Int) < 8; omega)
    have z : loQ ar (fun t => t) k (k : Int) = 0 := by rw [loQ_id, if_neg (by omega)]
    have z : loQ ar (fun t => t) k ((fun t => t) (k : Int)) = 0 := z
    rw [if_pos z, usQ_id k (by omega) (arQ_m A (Nat.le_succ k))] at e
    omega
theorem feQ_id {ar : Int → Int} {N : Nat} {R q : Int} (A : arQ ar N) (l : N ≤ 8) (R0 : 0 ≤ R) (h : ∀ j : Int, 0 ≤ j → j < (N : Int) → ar j ≤ R) (hq : q ≤ (N : Int)) : feQ ar N R q (fun t => t) := by
  refine ⟨fun j a b => ⟨a, by show j < 8; omega⟩, fun c c0 c1 => ?_, by rw [usQ_id N l A]; exact hq⟩
  rw [loQ_id]
  by_cases z : 0 ≤ c ∧ c < (N : Int)
  · rw [if_pos z]; exact h c z.1 z.2
  · rw [if_neg z]; exact R0
theorem feQ_no {ar f : Int → Int} {N : Nat} {R q : Int} (A : arQ ar N) (F : feQ ar N R q f) : (∀ j : Int, 0 ≤ j → j < (N : Int) → ar j ≤ R) ∧ q ≤ (N : Int) := by
  constructor
  · intro j j0 j1
    have g := F.1 j j0 j1
    have a := F.2.1 (f j) g.1 g.2
    have e : ((j.toNat : Nat) : Int) = j := Int.toNat_of_nonneg j0
    have b := loQ_le (ar := ar) (f := f) (f j) (k := j.toNat + 1) (N := N) (by omega) A
    have c : loQ ar f (j.toNat + 1) (f j) = loQ ar f j.toNat (f j) + odQ (f ((j.toNat : Nat) : Int)) (ar ((j.toNat : Nat) : Int)) (f j) := rfl
    have d : odQ (f ((j.toNat : Nat) : Int)) (ar ((j.toNat : Nat) : Int)) (f j) = ar j := by rw [e]; unfold odQ; rw [if_pos rfl]
    have n := loQ_n (ar := ar) (f := f) (f j) j.toNat (arQ_m A (by omega))
    omega
  · have a := usQ_l (ar := ar) (f := f) 0 N (by rw [Nat.zero_add]; exact A) (by rw [Nat.zero_add]; exact F.1)
    rw [Nat.zero_add] at a
    have b : usQ ar f 0 = 0 := rfl
    have c := F.2.2
    omega
end
section
-- ===== mix: the class =====
def QC (V : vS) : Prop := (∀ t, 0 ≤ t → t < 8 → 0 ≤ V 60 t ∧ V 60 t < 8) ∧ (∀ c, 0 ≤ c → c < 8 → (0 ≤ V 57 c ∧ V 57 c ≤ 99) ∧ 0 ≤ V 61 c ∧ V 61 c ≤ V 55 9) ∧ V 55 9 ≤ 3456
def Q51 (V : vS) (l e y : Int) : Prop := QC V → 0 ≤ l → l ≤ 3456 → 0 ≤ e → e ≤ 400000 → y = grQ (fun t => V 55 9 - V 61 (V 60 t)) (fun t => V 57 (V 60 t)) 8 0 e l
theorem l_51k {X : aX} {h : aH} (S : wS h) (B : QC (vw h)) : ∀ (n k : Nat) (x1 x2 x3 x4 x5 : Int32) (u6 : Option Value), x5.toInt + (k : Int) = 8 → 0 ≤ x5.toInt → 0 ≤ x4.toInt → x4.toInt ≤ 3456 → 0 ≤ x3.toInt → x3.toInt + x4.toInt * 99 ≤ 800000 → Pt n X zM51 8 [some (.ref 55), some (.int x1), some (.int x2), some (.int x3), some (.int x4), some (.int x5), u6] [] h (qI (fun y h' => wS h' ∧ (h' = h ∧ y = grQ (fun t => vw h 55 9 - vw h 61 (vw h 60 t)) (fun t => vw h 57 (vw h 60 t)) k x5.toInt x3.toInt x4.toInt))) := by
  intro n
  induction n with
  | zero => exact fun _ _ _ _ _ _ _ _ _ _ _ _ _ => pt_z
  | succ n ih =>
    intro k x1 x2 x3 x4 x5 u6 e5 n5 n4 b4 n3 b3
    refine d51_8 S rfl rfl rfl rfl rfl ⟨fun e => ⟨fun e2 => ⟨S, rfl, ?_⟩, fun e2 => ⟨S, rfl, ?_⟩⟩, fun e => ⟨fun e2 => ⟨fun _ => ⟨S, rfl, ?_⟩, fun e3 => absurd e2 (by omega)⟩, fun e2 p0 p1 r0 r1 w3 w4 w5 u6 g3 g4 g5 => ?_⟩⟩
    · obtain rfl : k = 0 := by omega
      show x3.toInt = if x4.toInt ≤ 0 then x3.toInt else -1
      rw [if_pos e2]
    · obtain rfl : k = 0 := by omega
      show (-1 : Int) = if x4.toInt ≤ 0 then x3.toInt else -1
      rw [if_neg (by omega)]
    · obtain ⟨j, rfl⟩ : ∃ j, k = j + 1 := ⟨k - 1, by omega⟩
      show x3.toInt = if x4.toInt ≤ 0 then x3.toInt else _
      rw [if_pos e2]
    · obtain ⟨j, rfl⟩ : ∃ j, k = j + 1 := ⟨k - 1, by omega⟩
      have b1 := B.2.1 _ r0 r1
      have b2 := B.2.2
      have m1 : w32 (vw h 55 9 - vw h 61 (vw h 60 x5.toInt)) = vw h 55 9 - vw h 61 (vw h 60 x5.toInt) := w32_id (by omega) (by omega)
      rw [m1] at g3 g4
      have q0 : 0 ≤ min x4.toInt (vw h 55 9 - vw h 61 (vw h 60 x5.toInt)) := by omega
      have q1 : min x4.toInt (vw h 55 9 - vw h 61 (vw h 60 x5.toInt)) ≤ x4.toInt := by omega
      have q : (if x4.toInt ≤ 0 then x3.toInt else grQ (fun t => vw h 55 9 - vw h 61 (vw h 60 t)) (fun t => vw h 57 (vw h 60 t)) j (x5.toInt + 1) (x3.toInt + min x4.toInt (vw h 55 9 - vw h 61 (vw h 60 x5.toInt)) * vw h 57 (vw h 60 x5.toInt)) (x4.toInt - min x4.toInt (vw h 55 9 - vw h 61 (vw h 60 x5.toInt)))) = grQ (fun t => vw h 55 9 - vw h 61 (vw h 60 t)) (fun t => vw h 57 (vw h 60 t)) (j + 1) x5.toInt x3.toInt x4.toInt := rfl
      rw [← q, if_neg (by omega)]
      clear q
      generalize min x4.toInt (vw h 55 9 - vw h 61 (vw h 60 x5.toInt)) = p at *
      have s0 := Int.mul_nonneg q0 b1.1.1
      have s1 : p * vw h 57 (vw h 60 x5.toInt) ≤ p * 99 := Int.mul_le_mul_of_nonneg_left b1.1.2 q0
      have m2 : w32 (p * vw h 57 (vw h 60 x5.toInt)) = p * vw h 57 (vw h 60 x5.toInt) := w32_id (by omega) (by omega)
      rw [m2, w32_id (by omega) (by omega)] at g3
      rw [w32_id (by omega) (by omega)] at g4 g5
      rw [← g3, ← g4, ← g5]
      exact ih j x1 x2 w3 w4 w5 u6 (by omega) (by omega) (by omega) (by omega) (by omega) (by omega)
theorem c_51k {n : Nat} {X : aX} {h : aH} {x1 x2 : Int32} {a1 a2 : Int} (S : wS h) (z1 : x1.toInt = a1) (z2 : x2.toInt = a2) : Pt n X zM51 0 [some (.ref 55), some (.int x1), some (.int x2), none, none, none, none] [] h (qI (fun y h' => wS h' ∧ (h' = h ∧ Q51 (vw h) a1 a2 y))) := by
  by_cases B : QC (vw h) ∧ 0 ≤ a1 ∧ a1 ≤ 3456 ∧ 0 ≤ a2 ∧ a2 ≤ 400000
  · refine pt_d (d51_0 S z1 z2 (fun w5 u6 g5 => ?_))
    refine pt_q (l_51k S B.1 n 8 x1 x2 x2 x1 w5 u6 (by omega) (by omega) (by omega) (by omega) (by omega) (by omega)) ?_
    rintro v h' ⟨y, e, S', q, r⟩
    refine ⟨y, e, S', q, fun _ _ _ _ _ => ?_⟩
    rw [r, z1, z2, g5]
  · refine pt_q (c_51 S z1 z2) ?_
    rintro v h' ⟨y, e, S', q⟩
    exact ⟨y, e, S', q, fun b b1 b2 b3 b4 => absurd ⟨b, b1, b2, b3, b4⟩ B⟩
def Q50 (V : vS) (a : Int) (q2 : Nat) (y : Int) : Prop := y = 0 → ∃ j, 0 ≤ j ∧ j < a ∧ V 61 (V q2 j) = 0 ∧ V 57 (V q2 j) = V 57 (V q2 a)
theorem l_50k {X : aX} : ∀ (n : Nat) (h : aH) (x1 x3 : Int32) (q2 : Nat), wS h → Pt n X zM50 2 [some (.ref 55), some (.int x1), some (.ref q2), some (.int x3)] [] h (qI (fun y h' => wS h' ∧ (h' = h ∧ Q50 (vw h) x1.toInt q2 y))) := by
  intro n
  induction n with
  | zero => exact fun _ _ _ _ _ => pt_z
  | succ n ih =>
    intro h x1 x3 q2 S
    exact d50_2 S rfl rfl ⟨fun _ => ⟨S, rfl, fun z => absurd z (by decide)⟩, fun e p0 _ _ => ⟨fun _ w3 _ => ih h x1 w3 q2 S, fun e0 _ _ _ _ => ⟨fun _ w3 _ => ih h x1 w3 q2 S, fun e1 => ⟨S, rfl, fun _ => ⟨x3.toInt, p0, e, e0, e1⟩⟩⟩⟩⟩
theorem c_50k {n : Nat} {X : aX} {h : aH} {x1 : Int32} {a1 : Int} {q2 : Nat} (S : wS h) (z1 : x1.toInt = a1) : Pt n X zM50 0 [some (.ref 55), some (.int x1), some (.ref q2), none] [] h (qI (fun y h' => wS h' ∧ (h' = h ∧ Q50 (vw h) a1 q2 y))) := by
  subst z1
  exact pt_d (d50_0 S rfl (fun w3 _ => l_50k n h x1 w3 q2 S))
-- the order by worth
def spQ (w o : Int → Int) (i : Int) : Prop := ∃ rk : Int → Int, (∀ c, 0 ≤ c → c < i → 0 ≤ rk c ∧ rk c < i ∧ o (rk c) = c) ∧ (∀ t, 0 ≤ t → t < i → 0 ≤ o t ∧ o t < i ∧ rk (o t) = t) ∧ ∀ t, 0 ≤ t → t + 1 < i → w (o (t + 1)) ≤ w (o t)
def siQ (w o : Int → Int) (i at_ : Int) : Prop := 0 ≤ at_ ∧ at_ ≤ i ∧ ∃ o0, spQ w o0 i ∧ (∀ t, 0 ≤ t → t < at_ → o t = o0 t) ∧ (∀ t, at_ < t → t ≤ i → o t = o0 (t - 1)) ∧ ∀ t, at_ ≤ t → t < i → w (o0 t) < w i
theorem siQ_0 {w o : Int → Int} {i : Int} (s : spQ w o i) (i0 : 0 ≤ i) : siQ w o i i := ⟨i0, Int.le_refl i, o, s, fun _ _ _ => rfl, fun t a b => by omega, fun t a b => by omega⟩
theorem siQ_s {w o o' : Int → Int} {i a : Int} (s : siQ w o i a) (a0 : 0 < a) (l : w (o (a - 1)) < w i) (e : ∀ t, o' t = if t = a then o (a - 1) else o t) : siQ w o' i (a - 1) := by
  obtain ⟨-, a1, o0, s, p, q, r⟩ := s
  refine ⟨by omega, by omega, o0, s, fun t t0 t1 => ?_, fun t t0 t1 => ?_, fun t t0 t1 => ?_⟩
  · rw [e, if_neg (by omega)]; exact p t t0 (by omega)
  · rw [e]
    by_cases z : t = a
    · rw [if_pos z, z]; exact p _ (by omega) (by omega)
    · rw [if_neg z]; exact q t (by omega) t1
  · by_cases z : t = a - 1
    · rw [z, ← p (a - 1) (by omega) (by omega)]; exact l
    · exact r t (by omega) t1
theorem siQ_d {w o o' : Int → Int} {i a : Int} (s : siQ w o i a) (l : a = 0 ∨ w i ≤ w (o (a - 1))) (e : ∀ t, o' t = if t = a then i else o t) : spQ w o' (i + 1) := by
  obtain ⟨a0, a1, o0, ⟨rk, s1, s2, s3⟩, p, q, r⟩ := s
  have E1 : ∀ t, 0 ≤ t → t < a → o' t = o0 t := fun t t0 t1 => by rw [e, if_neg (by omega)]; exact p t t0 t1
  have E2 : o' a = i := by rw [e, if_pos rfl]
  have E3 : ∀ t, a < t → t ≤ i → o' t = o0 (t - 1) := fun t t0 t1 => by rw [e, if_neg (by omega)]; exact q t t0 t1
  refine ⟨fun c => if c = i then a else if rk c < a then rk c else rk c + 1, fun c c0 c1 => ?_, fun t t0 t1 => ?_, fun t t0 t1 => ?_⟩
  · by_cases z : c = i
    · simp only [if_pos z]
      exact ⟨a0, by omega, by rw [E2, z]⟩
    · simp only [if_neg z]
      have b := s1 c c0 (by omega)
      by_cases y : rk c < a
      · simp only [if_pos y]
        exact ⟨b.1, by omega, by rw [E1 _ b.1 y]; exact b.2.2⟩
      · simp only [if_neg y]
        refine ⟨by omega, by omega, ?_⟩
        rw [E3 _ (by omega) (by omega), show rk c + 1 - 1 = rk c by omega]
        exact b.2.2
  · by_cases z : t < a
    · have b := s2 t t0 (by omega)
      rw [E1 t t0 z]
      refine ⟨b.1, by omega, ?_⟩
      show (if o0 t = i then a else if rk (o0 t) < a then rk (o0 t) else rk (o0 t) + 1) = t
      rw [if_neg (by omega), if_pos (by omega)]; exact b.2.2
    · by_cases y : t = a
      · rw [y, E2]
        exact ⟨by omega, by omega, if_pos rfl⟩
      · have b := s2 (t - 1) (by omega) (by omega)
        rw [E3 t (by omega) (by omega)]
        refine ⟨b.1, by omega, ?_⟩
        show (if o0 (t - 1) = i then a else if rk (o0 (t - 1)) < a then rk (o0 (t - 1)) else rk (o0 (t - 1)) + 1) = t
        rw [if_neg (by omega), if_neg (by omega), b.2.2]; omega
  · by_cases z : t + 1 < a
    · rw [E1 _ (by omega) z, E1 _ t0 (by omega)]
      exact s3 t t0 (by omega)
    · by_cases y : t + 1 = a
      · rw [y, E2, E1 t t0 (by omega)]
        have := p t t0 (by omega)
        rcases l with l | l
        · omega
        · rw [show a - 1 = t by omega, this] at l; exact l
      · by_cases x : t = a
        · rw [E3 _ (by omega) (by omega), x, E2, show a + 1 - 1 = a by omega]
          exact Int.le_of_lt (r a (Int.le_refl a) (by omega))
        · rw [E3 _ (by omega) (by omega), E3 _ (by omega) (by omega)]
          have := s3 (t - 1) (by omega) (by omega)
          rw [show t - 1 + 1 = t by omega] at this
          rw [show t + 1 - 1 = t by omega]
          exact this
theorem spQ_0 (w o : Int → Int) : spQ w o 0 := ⟨fun t => t, fun c a b => by omega, fun c a b => by omega, fun c a b => by omega⟩
def R48 (V V' : vS) : Prop := (∀ (c : Nat) j, c ≠ 60 → V' c j = V c j) ∧ ∃ rk, pmQ (V' 60) rk ∧ ∀ t, 0 ≤ t → t + 1 < 8 → V 57 (V' 60 (t + 1)) ≤ V 57 (V' 60 t)
theorem up_f {V V0 : vS} {c : Nat} {x y : Int} (F : ∀ (d : Nat) j, d ≠ c → V d j = V0 d j) : ∀ (d : Nat) j, d ≠ c → up V c x y d j = V0 d j := fun d j e => by rw [up_c e]; exact F d j e
theorem l_48k {X : aX} {V0 : vS} : ∀ n : Nat, (∀ (h : aH) (x1 : Int32) (u2 : Option Value), wS h → (∀ (c : Nat) j, c ≠ 60 → vw h c j = V0 c j) → 0 ≤ x1.toInt → x1.toInt ≤ 8 → spQ (V0 57) (vw h 60) x1.toInt → Pt n X zM48 2 [some (.ref 55), some (.int x1), u2] [] h (qN (fun h' => wS h' ∧ R48 V0 (vw h')))) ∧ (∀ (h : aH) (x1 x2 : Int32), wS h → (∀ (c : Nat) j, c ≠ 60 → vw h c j = V0 c j) → x1.toInt < 8 → siQ (V0 57) (vw h 60) x1.toInt x2.toInt → Pt n X zM48 10 [some (.ref 55), some (.int x1), some (.int x2)] [] h (qN (fun h' => wS h' ∧ R48 V0 (vw h')))) := by
  intro n
  induction n with
  | zero => exact ⟨fun _ _ _ _ _ _ _ _ => pt_z, fun _ _ _ _ _ _ _ => pt_z⟩
  | succ n ih =>
    obtain ⟨ih2, ih10⟩ := ih
    refine And.intro ?_ ?_
    · intro h x1 u2 S F l0 l1 s
      refine d48_2 S rfl ⟨fun e => ⟨S, F, ?_⟩, fun e => ih10 h x1 x1 S F e (siQ_0 s l0)⟩
      rw [show x1.toInt = 8 by omega] at s
      obtain ⟨rk, s1, s2, s3⟩ := s
      exact ⟨rk, ⟨s1, s2⟩, s3⟩
    · intro h x1 x2 S F l1 s
      have W : ∀ j, vw h 57 j = V0 57 j := fun j => F 57 j (by decide)
      refine d48_10 S rfl rfl ⟨fun e p0 p1 g Sg eg w1 u2 g1 => ?_, fun e p0 p1 r0 r1 q0 q1 => ⟨fun f p2 p3 g Sg eg w1 u2 g1 => ?_, fun f p2 p3 g Sg eg w2 g2 => ?_⟩⟩
      · have g1 : w1.toInt = x1.toInt + 1 := by rw [g1]; exact w32_id (by have := s.2.1; omega) (by omega)
        refine ih2 g w1 u2 Sg (by rw [eg]; exact up_f F) (by have := s.2.1; omega) (by omega) ?_
        rw [g1, eg]
        exact siQ_d s (Or.inl (by omega)) (fun t => up_p)
      · have g1 : w1.toInt = x1.toInt + 1 := by rw [g1]; exact w32_id (by omega) (by omega)
        have m1 : w32 (x2.toInt - 1) = x2.toInt - 1 := w32_id (by omega) (by omega)
        refine ih2 g w1 u2 Sg (by rw [eg]; exact up_f F) (by omega) (by omega) ?_
        rw [g1, eg]
        rw [m1, W, W] at f
        exact siQ_d s (Or.inr f) (fun t => up_p)
      · have m1 : w32 (x2.toInt - 1) = x2.toInt - 1 := w32_id (by omega) (by omega)
        have g2 : w2.toInt = x2.toInt - 1 := by rw [g2]; exact w32_id (by omega) (by omega)
        refine ih10 g x1 w2 Sg (by rw [eg]; exact up_f F) l1 ?_
        rw [g2, eg]
        rw [m1, W, W] at f
        rw [m1]
        exact siQ_s s e f (fun t => up_p)
theorem c_48k {n : Nat} {X : aX} {h : aH} (S : wS h) : Pt n X zM48 0 [some (.ref 55), none, none] [] h (qN (fun h' => wS h' ∧ R48 (vw h) (vw h'))) := by
  refine pt_d (d48_0 S (fun w1 u2 g1 => (l_48k n).1 h w1 u2 S (fun _ _ _ => rfl) (by omega) (by omega) ?_))
  rw [g1]; exact spQ_0 _ _
def R332g (V : vS) (a : Int) (W : vS) : Prop := (∀ (c : Nat) j, c ≠ 61 → W c j = V c j) ∧ ∀ j, 0 ≤ j → j < 8 → W 61 j = a

theorem l_332g {X : aX} {V : vS} {a : Int} : ∀ (n : Nat) (h : aH) (x1 x2 x3 : Int32) (k : Nat), wS h → x1.toInt = a → x2.toInt = (k : Int) → x3.toInt = 8 → k ≤ 8 → (∀ (c : Nat) j, c ≠ 61 → vw h c j = V c j) → (∀ j, 0 ≤ j → j < (k : Int) → vw h 61 j = a) → Pt n X zM332 5 [some (.ref 61), some (.int x1), some (.int x2), some (.int x3)] [] h (qN (fun h' => wS h' ∧ R332g V a (vw h'))) := by
  intro n
  induction n with
  | zero => intros; exact pt_z
  | succ n ih =>
    intro h x1 x2 x3 k S h1 h2 h3 hk F A
    refine d332_5 S h1 h2 h3 ⟨fun e => ⟨S, F, fun j a b => A j a (by omega)⟩, fun e _ _ g S2 eg w g2 => ?_⟩
    replace g2 := w_1 g2 (by omega) (by omega)
    refine ih g x1 w x3 (k + 1) S2 h1 (by omega) h3 (by omega) (fun c j z => by rw [eg, up_c z]; exact F c j z) (fun j a b => ?_)
    rw [eg, up_p]
    by_cases y : j = (k : Int)
    · rw [if_pos y]
    · rw [if_neg y]
      exact A j a (by omega)
theorem c_332g {n : Nat} {X : aX} {h : aH} {x1 : Int32} {a1 : Int} (S : wS h) (z1 : x1.toInt = a1) : Pt n X zM332 0 [some (.ref 61), some (.int x1), none, none] [] h (qN (fun h' => wS h' ∧ R332g (vw h) a1 (vw h'))) :=
  pt_d (d332_0 S z1 (fun w2 w3 g2 g3 => l_332g n h x1 w2 w3 0 S z1 g2 g3 (Nat.zero_le _) (fun _ _ _ => rfl) (fun j a b => by omega)))
end
section
-- ===== mix: the class =====
-- the search
def MC (V : vS) (N : Nat) (rk : Int → Int) : Prop := V 55 1 = (N : Int) ∧ N ≤ 6 ∧ arQ (V 56) N ∧ (∀ c, 0 ≤ c → c < 8 → 0 ≤ V 57 c ∧ V 57 c ≤ 99) ∧ 0 ≤ V 55 9 ∧ V 55 9 ≤ 3456 ∧ pmQ (V 60) rk ∧ ∀ t, 0 ≤ t → t + 1 < 8 → V 57 (V 60 (t + 1)) ≤ V 57 (V 60 t)
def NS (V : vS) (N k : Nat) (l e u : Int) : Prop := k ≤ N ∧ l = smQ (V 56) N - smQ (V 56) k ∧ e = vlQ (V 56) (V 57) (V 62) k ∧ u = usQ (V 56) (V 62) k ∧ rgQ (V 62) k ∧ ∀ c, 0 ≤ c → c < 8 → V 61 c = loQ (V 56) (V 62) k c ∧ V 61 c ≤ V 55 9
def f49 (V V' : vS) : Prop := (∀ (c : Nat) j, c ≠ 55 → c ≠ 58 → c ≠ 61 → c ≠ 62 → V' c j = V c j) ∧ (∀ j, j ≠ 11 → V' 55 j = V 55 j) ∧ ∀ j, V' 61 j = V 61 j
def R49 (V : vS) (N k : Nat) (rk : Int → Int) (V' : vS) : Prop := f49 V V' ∧ (∀ j, j < (k : Int) → V' 62 j = V 62 j) ∧ rsQ (V 56) (V 57) rk N (ndQ (V 56) N (V 55 9) (V 55 10) k (V 62)) (V 55 11) (V 58) (V' 55 11) (V' 58)
def G49 (V : vS) (a1 : Int) (q2 : Nat) (a3 a4 a5 : Int) (V' : vS) : Prop := ∀ (N k : Nat) (rk rk2 : Int → Int), a1 = (k : Int) → MC V N rk2 → pmQ (V q2) rk → (q2 = 59 ∨ q2 = 60) → NS V N k a3 a4 a5 → R49 V N k rk V'
theorem f49_r (V : vS) : f49 V V := ⟨fun _ _ _ _ _ _ => rfl, fun _ _ => rfl, fun _ => rfl⟩
theorem f49_q {V V' : vS} (f : f49 V V') {c : Nat} (h : c = 56 ∨ c = 57 ∨ c = 59 ∨ c = 60) : V' c = V c := by
  rcases h with rfl | rfl | rfl | rfl <;> exact funext (fun j => f.1 _ j (by decide) (by decide) (by decide) (by decide))
theorem usQ_b (ar f : Int → Int) (k : Nat) : 0 ≤ usQ ar f k ∧ usQ ar f k ≤ 8 := by
  have h : ∀ c, 0 ≤ unQ ar f k c ∧ unQ ar f k c ≤ 1 := by
    intro c
    unfold unQ ucQ
    by_cases z : 0 < loQ ar f k c
    · rw [if_pos z]; decide
    · rw [if_neg z]; decide
  have h0 := h 0; have h1 := h 1; have h2 := h 2; have h3 := h 3; have h4 := h 4; have h5 := h 5; have h6 := h 6; have h7 := h 7
  unfold usQ sQ
  omega
theorem smQ_b {ar : Int → Int} : ∀ k : Nat, arQ ar k → 0 ≤ smQ ar k ∧ smQ ar k ≤ 576 * (k : Int)
  | 0, _ => by show (0 : Int) ≤ 0 ∧ (0 : Int) ≤ 0; decide
  | k + 1, A => by
    have a := smQ_b k (arQ_m A (Nat.le_succ k))
    have b := A (k : Int) (by omega) (by omega)
    show 0 ≤ smQ ar k + ar (k : Int) ∧ smQ ar k + ar (k : Int) ≤ 576 * ((k + 1 : Nat) : Int)
    omega
theorem smQ_m {ar : Int → Int} (k : Nat) : ∀ d : Nat, arQ ar (k + d) → smQ ar k ≤ smQ ar (k + d)
  | 0, _ => Int.le_refl _
  | d + 1, A => by
    have a := smQ_m k d (arQ_m A (Nat.le_succ (k + d)))
    have b := A ((k + d : Nat) : Int) (by omega) (by omega)
    show smQ ar k ≤ smQ ar (k + d) + ar ((k + d : Nat) : Int)
    omega
theorem smQ_le {ar : Int → Int} {k N : Nat} (l : k ≤ N) (A : arQ ar N) : smQ ar k ≤ smQ ar N := by
  have := smQ_m (ar := ar) k (N - k) (by rw [Nat.add_sub_cancel' l]; exact A)
  rw [Nat.add_sub_cancel' l] at this
  exact this
theorem vlQ_b {ar wo f : Int → Int} (W : ∀ c, 0 ≤ c → c < 8 → 0 ≤ wo c ∧ wo c ≤ 99) : ∀ k : Nat, arQ ar k → rgQ f k → 0 ≤ vlQ ar wo f k ∧ vlQ ar wo f k ≤ 57024 * (k : Int)
  | 0, _, _ => by show (0 : Int) ≤ 0 ∧ (0 : Int) ≤ 0; decide
  | k + 1, A, G => by
    have a := vlQ_b W k (arQ_m A (Nat.le_succ k)) (rgQ_m G (Nat.le_succ k))
    have b := A (k : Int) (by omega) (by omega)
    have g := G (k : Int) (by omega) (by omega)
    have w := W _ g.1 g.2
    have p0 := Int.mul_nonneg (a := ar (k : Int)) (b := wo (f (k : Int))) (by omega) w.1
    have p1 : ar (k : Int) * wo (f (k : Int)) ≤ ar (k : Int) * 99 := Int.mul_le_mul_of_nonneg_left w.2 (by omega)
    show 0 ≤ vlQ ar wo f k + ar (k : Int) * wo (f (k : Int)) ∧ vlQ ar wo f k + ar (k : Int) * wo (f (k : Int)) ≤ 57024 * ((k + 1 : Nat) : Int)
    omega
theorem grQ_0 (C U : Int → Int) (m : Int) : ∀ (k : Nat) (i : Int), grQ C U k i m 0 = m
  | 0, _ => if_pos (Int.le_refl 0)
  | _ + 1, _ => if_pos (Int.le_refl 0)
theorem grQ_c {C C' U U' : Int → Int} (h : ∀ t, 0 ≤ t → t < 8 → C t = C' t ∧ U t = U' t) : ∀ (k : Nat) (i m r : Int), i + (k : Int) = 8 → 0 ≤ i → grQ C U k i m r = grQ C' U' k i m r
  | 0, _, _, _, _, _ => rfl
  | k + 1, i, m, r, e, i0 => by
    have a := h i i0 (by omega)
    show (if r ≤ 0 then m else grQ C U k (i + 1) (m + min r (C i) * U i) (r - min r (C i))) = if r ≤ 0 then m else grQ C' U' k (i + 1) (m + min r (C' i) * U' i) (r - min r (C' i))
    rw [a.1, a.2, grQ_c h k (i + 1) _ _ (by omega) (by omega)]
def LPq (V0 V : vS) (N k : Nat) (rk : Int → Int) (i : Int) : Prop := f49 V0 V ∧ (∀ j, j < (k : Int) → V 62 j = V0 62 j) ∧ rsQ (V0 56) (V0 57) rk N (lpQ (V0 56) N (V0 55 9) (V0 55 10) k (V0 62) rk i) (V0 55 11) (V0 58) (V 55 11) (V 58)
theorem MC_m {V V' : vS} {N : Nat} {rk : Int → Int} (M : MC V N rk) (e1 : V' 55 1 = V 55 1) (e9 : V' 55 9 = V 55 9) (e56 : V' 56 = V 56) (e57 : V' 57 = V 57) (e60 : V' 60 = V 60) : MC V' N rk := by
  unfold MC
  rw [e1, e9, e56, e57, e60]
  exact M
theorem st49 {V0 V Vg V2 V3 : vS} {N k : Nat} {rk rk2 : Int → Int} {q2 : Nat} {i l e u a : Int} (hq : q2 = 59 ∨ q2 = 60) (M : MC V0 N rk2) (Pq : pmQ (V0 q2) rk) (S : NS V0 N k l e u) (lt : k < N) (i0 : 0 ≤ i) (i1 : i < 8) (ha : a = V0 56 (k : Int)) (L : LPq V0 V N k rk i) (fit : w32 (V 61 (V q2 i) + a) ≤ V 55 9) {d : Int} (hd : d = if V 61 (V q2 i) = 0 then 1 else 0) (eg : Vg = up (up V 61 (V q2 i) (w32 (V 61 (V q2 i) + a))) 62 (k : Int) (V q2 i)) (G : G49 Vg (w32 ((k : Int) + 1)) q2 (w32 (l - a)) (w32 (e + w32 (a * V 57 (V q2 i)))) (w32 (u + d)) V2) (e3 : V3 = up V2 61 (V q2 i) (w32 (V2 61 (V q2 i) - a))) : LPq V0 V3 N k rk (i + 1) := by
  obtain ⟨F, K, R⟩ := L
  have M' := M
  obtain ⟨m1, m2, m3, m4, m5, m6, m7, m8⟩ := M'
  obtain ⟨s1, s2, s3, s4, s5, s6⟩ := S
  have q56 := f49_q F (c := 56) (Or.inl rfl)
  have q57 := f49_q F (c := 57) (Or.inr (Or.inl rfl))
  have q60 := f49_q F (c := 60) (Or.inr (Or.inr (Or.inr rfl)))
  have qq : V q2 = V0 q2 := f49_q F (by omega)
  have pi := Pq.2 i i0 i1
  rw [qq] at fit hd eg G e3
  have c0 := pi.1
  have c1 := pi.2.1
  have av := m3 (k : Int) (by omega) (by omega)
  rw [← ha] at av
  have ld := s6 (V0 q2 i) c0 c1
  have l61 := F.2.2 (V0 q2 i)
  have e9 : V 55 9 = V0 55 9 := F.2.1 9 (by decide)
  have ln := loQ_n (ar := V0 56) (f := V0 62) (V0 q2 i) k (arQ_m m3 s1)
  have w1 : w32 (V 61 (V0 q2 i) + a) = V0 61 (V0 q2 i) + a := by rw [l61]; exact w32_id (by omega) (by omega)
  rw [w1] at fit eg
  rw [e9] at fit
  -- what the call finds
  have g55 : ∀ j, Vg 55 j = V 55 j := fun j => by rw [eg, up_c (by decide), up_c (by decide)]
  have gc : ∀ c : Nat, c ≠ 61 → c ≠ 62 → Vg c = V c := fun c n1 n2 => funext (fun j => by rw [eg, up_c n2, up_c n1])
  have g56 : Vg 56 = V0 56 := (gc 56 (by decide) (by decide)).trans q56
  have g57 : Vg 57 = V0 57 := (gc 57 (by decide) (by decide)).trans q57
  have g58 : Vg 58 = V 58 := gc 58 (by decide) (by decide)
  have g60 : Vg 60 = V0 60 := (gc 60 (by decide) (by decide)).trans q60
  have gq : Vg q2 = V0 q2 := (gc q2 (by omega) (by omega)).trans qq
  have g61 : ∀ j, Vg 61 j = if j = V0 q2 i then V0 61 (V0 q2 i) + a else V0 61 j := fun j => by
    rw [eg, up_c (by decide), up_p]
    by_cases z : j = V0 q2 i
    · rw [if_pos z, if_pos z]
    · rw [if_neg z, if_neg z]; exact F.2.2 j
  have g62k : Vg 62 (k : Int) = V0 q2 i := by rw [eg, up_s]
  have g62 : egQ (Vg 62) (V0 62) k := fun j j0 j1 => by rw [eg, up_j (by omega), up_c (by decide)]; exact K j j1
  have MG : MC Vg N rk2 := MC_m M (by rw [g55]; exact F.2.1 1 (by decide)) (by rw [g55]; exact e9) g56 g57 g60
  have aw := m4 _ c0 c1
  have p0 := Int.mul_nonneg (a := a) (b := V0 57 (V0 q2 i)) (by omega) aw.1
  have p1 : a * V0 57 (V0 q2 i) ≤ a * 99 := Int.mul_le_mul_of_nonneg_left aw.2 (by omega)
  have vb := vlQ_b (wo := V0 57) (f := V0 62) m4 k (arQ_m m3 s1) s5
  have ub := usQ_b (V0 56) (V0 62) k
  have sb := smQ_b N m3
  have sk := smQ_b (k + 1) (arQ_m m3 (show k + 1 ≤ N from lt))
  have sl := smQ_le (show k + 1 ≤ N from lt) m3
  have sk1 : smQ (V0 56) (k + 1) = smQ (V0 56) k + a := by rw [ha]; rfl
  have d01 : 0 ≤ d ∧ d ≤ 1 := by
    rw [hd]
    by_cases z : V 61 (V0 q2 i) = 0
    · rw [if_pos z]; decide
    · rw [if_neg z]; decide
  have NG : NS Vg N (k + 1) (w32 (l - a)) (w32 (e + w32 (a * V 57 (V0 q2 i)))) (w32 (u + d)) := by
    unfold NS
    rw [g56, g57, q57, g55, e9, w32_id (z := a * V0 57 (V0 q2 i)) (by omega) (by omega), w32_id (z := l - a) (by omega) (by omega), w32_id (z := e + a * V0 57 (V0 q2 i)) (by omega) (by omega), w32_id (z := u + d) (by omega) (by omega)]
    have lo1 : ∀ c, loQ (V0 56) (Vg 62) (k + 1) c = loQ (V0 56) (V0 62) k c + odQ (V0 q2 i) a c := by
      intro c
      show loQ (V0 56) (Vg 62) k c + odQ (Vg 62 (k : Int)) (V0 56 (k : Int)) c = _
      rw [loQ_cg c k g62, g62k, ha]
    refine ⟨lt, by omega, ?_, ?_, fun j j0 j1 => ?_, fun c d0 d1 => ?_⟩
    · show e + a * V0 57 (V0 q2 i) = vlQ (V0 56) (V0 57) (Vg 62) k + V0 56 (k : Int) * V0 57 (Vg 62 (k : Int))
      rw [vlQ_cg k g62, g62k, ← ha, s3]
    · have us := usQ_s (ar := V0 56) (f := Vg 62) (k := k) (arQ_m m3 (show k + 1 ≤ N from lt)) (by rw [g62k]; exact c0) (by rw [g62k]; exact c1)
      rw [us, usQ_cg k g62, g62k, loQ_cg _ k g62, ← ld.1, s4, hd, l61]
    · by_cases z : j = (k : Int)
      · rw [z, g62k]; exact ⟨c0, c1⟩
      · rw [g62 j j0 (by omega)]; exact s5 j j0 (by omega)
    · rw [lo1, g61]
      unfold odQ
      have lc := s6 c d0 d1
      by_cases z : c = V0 q2 i
      · rw [if_pos z, if_pos z.symm, z, ← ld.1]; exact ⟨rfl, fit⟩
      · rw [if_neg z, if_neg (fun q => z q.symm)]; omega
  obtain ⟨F2, K2, R2⟩ := G N (k + 1) rk rk2 (by rw [w32_id (by omega) (by omega)]; omega) MG (by rw [gq]; exact Pq) hq NG
  rw [g56, g57, g55, g55, g55, g58, e9, F.2.1 10 (by decide)] at R2
  have x58 : V3 58 = V2 58 := funext (fun j => by rw [e3, up_c (by decide)])
  have x55 : ∀ j, V3 55 j = V2 55 j := fun j => by rw [e3, up_c (by decide)]
  refine ⟨⟨fun c j n1 n2 n3 n4 => ?_, fun j n1 => ?_, fun j => ?_⟩, fun j j1 => ?_, ?_⟩
  · rw [e3, up_c n3, F2.1 c j n1 n2 n3 n4, gc c n3 n4]; exact F.1 c j n1 n2 n3 n4
  · rw [x55, F2.2.1 j n1, g55]; exact F.2.1 j n1
  · rw [e3, up_p]
    by_cases z : j = V0 q2 i
    · rw [if_pos z, F2.2.2, g61, if_pos rfl, z, show V0 61 (V0 q2 i) + a - a = V0 61 (V0 q2 i) by omega]
      exact w32_id (by omega) (by omega)
    · rw [if_neg z, F2.2.2, g61, if_neg z]
  · rw [e3, up_c (by decide), K2 j (by omega), eg, up_j (by omega), up_c (by decide)]; exact K j j1
  · rw [x58, x55]
    exact lpQ_t Pq i0 i1 lt g62 g62k R R2
end

-- ===== 82zw.rel3: 2 texts =====
section
-- ===== the two sides' shelves, as numbers; the law's rows for longs, their values kept =====
theorem b_j {a b : Int64} : (a = b) ↔ a.toInt = b.toInt := Int64.toInt_inj.symm
section WV
variable {X : aX} {D : Nat} {M : aM} {Q : Option Value → aH → Prop} {pc len a b : Nat} {l : aL} {r : List Value} {h : aH}
theorem w_lshlv {x : Int64} {y : Int32} (hf : aF pc M.2.2.2.2.2.2.2 = some (pc, .lshl, len, a, b)) (k : ∀ z : Int64, z = x <<< (y.toInt64 &&& 63) → Wp X D M Q (pc + 1) l (.long z :: r) h) : Wp X D M Q pc l (.int y :: .long x :: r) h := wp1 (fun n d => r_lshl hf rfl) (k _ rfl)
theorem w_landv {x y : Int64} (hf : aF pc M.2.2.2.2.2.2.2 = some (pc, .land, len, a, b)) (k : ∀ z : Int64, z = x &&& y → Wp X D M Q (pc + 1) l (.long z :: r) h) : Wp X D M Q pc l (.long y :: .long x :: r) h := wp1 (fun n d => r_land hf rfl) (k _ rfl)
theorem w_lorv {x y : Int64} (hf : aF pc M.2.2.2.2.2.2.2 = some (pc, .lor, len, a, b)) (k : ∀ z : Int64, z = x ||| y → Wp X D M Q (pc + 1) l (.long z :: r) h) : Wp X D M Q pc l (.long y :: .long x :: r) h := wp1 (fun n d => r_lor hf rfl) (k _ rfl)
end WV
def JSh1 (V : vS) (s : Int) : Prop := (V 69 s = -1 ∧ V 142 s = -1) ∨ (V 69 s = 5 ∧ 0 ≤ V 142 s ∧ V 70 s = V 142 s) ∨ (0 ≤ V 69 s ∧ V 69 s ≤ 4 ∧ V 142 s = -2 - V 69 s ∧ V 70 s = V 143 s ∧ 0 ≤ V 143 s ∧ V 143 s ≤ 60 ∧ ∀ i, 0 ≤ i → i < V 143 s → V 71 (60 * s + i) = V 144 (60 * s + i))
def JShelf (V : vS) : Prop := ∀ s, 0 ≤ s → s ≤ 5 → JSh1 V s
theorem JSh1_f {V V' : vS} {s : Int} (J : JSh1 V s) (a : V' 69 s = V 69 s) (b : V' 142 s = V 142 s) (c : V' 70 s = V 70 s) (d : V' 143 s = V 143 s) (e : ∀ i, 0 ≤ i → i < 60 → V' 71 (60 * s + i) = V 71 (60 * s + i)) (f : ∀ i, 0 ≤ i → i < 60 → V' 144 (60 * s + i) = V 144 (60 * s + i)) : JSh1 V' s := by
  unfold JSh1
  rw [a, b, c, d]
  rcases J with J | J | ⟨j1, j2, j3, j4, j5, j6, j7⟩
  · exact Or.inl J
  · exact Or.inr (Or.inl J)
  · exact Or.inr (Or.inr ⟨j1, j2, j3, j4, j5, j6, fun i i0 i1 => by rw [e i i0 (by omega), f i i0 (by omega)]; exact j7 i i0 i1⟩)
def LShelf : List (Nat × Option Nat) := [(69, none), (142, none), (70, none), (143, none), (71, none), (144, none)]
theorem JShelf_ag {V V' : vS} (J : JShelf V) (A : ag LShelf V V') : JShelf V' := by
  obtain ⟨a1, a2, a3, a4, a5, a6, -⟩ := A
  exact fun s h0 h1 => JSh1_f (J s h0 h1) (a1 s) (a2 s) (a3 s) (a4 s) (fun i _ _ => a5 _) (fun i _ _ => a6 _)
theorem JShelf_dG {W : List (Nat × Nat)} {σ σ1 : List Nat} {h h1 : aH} (J : JShelf (vw h)) (I : dI σ h) (G : dG W σ h σ1 h1) (k : frL W LShelf = true) : JShelf (vw h1) := JShelf_ag J (ag_dG I.1 G _ k)
theorem vb70 {σ : List Nat} {h : aH} (I : dI σ h) : ∀ j, 0 ≤ j → j < 6 → 0 ≤ vw h 70 j ∧ vw h 70 j ≤ 149 := fun j h0 h1 => vw_rng I (c := 70) (a := 0) (n := 6) (lo := 0) (hi := 149) (by decide +kernel) h0 h1
theorem vb70' {σ : List Nat} {h : aH} (I : dI σ h) : ∀ j, 0 ≤ j → j < 6 → vw h 70 j ≤ 149 := fun j h0 h1 => (vb70 I j h0 h1).2
theorem vb143 {σ : List Nat} {h : aH} (I : dI σ h) : ∀ j, 0 ≤ j → j < 6 → 0 ≤ vw h 143 j ∧ vw h 143 j ≤ 60 := fun j h0 h1 => vw_rng I (c := 143) (a := 0) (n := 6) (lo := 0) (hi := 60) (by decide +kernel) h0 h1
theorem vb2 {σ : List Nat} {h : aH} (I : dI σ h) : ∀ j, 0 ≤ j → j < 150 → 0 ≤ vw h 2 j ∧ vw h 2 j ≤ 7 := fun j h0 h1 => vw_rng I (c := 2) (a := 0) (n := 150) (lo := 0) (hi := 7) (by decide +kernel) h0 h1
theorem jx_44 {V V1 V2 : vS} {s b r1 r2 : Int} (J : JBody V) (L : JShelf V) (c : R188 V s b r1 V1) (m : R319 V1 s b r2 V2) : JShelf V2 ∧ r1 = r2 := by
  have j1 := J.1
  have j6 := J.2.2.2.2.2.1
  have j7 := J.2.2.2.2.2.2.1
  have eb : cBody V b ↔ mBody V b := by unfold cBody mBody; rw [J.1]
  have key : ∀ (W : vS) (t v : Int), W = up (up V 69 s t) 70 s v → (0 ≤ s ∧ s ≤ 5) → (t = -1 ∧ b = -1) ∨ (t = 5 ∧ 0 ≤ b ∧ v = b) → JShelf (up W 142 s b) := by
    intro W t v eW hs ht s' h0 h1
    subst eW
    by_cases q : s' = s
    · subst q
      unfold JSh1
      rw [up_s, up_c (by decide), up_c (by decide), up_s, up_c (by decide), up_s]
      rcases ht with ht | ht
      · exact Or.inl ht
      · exact Or.inr (Or.inl ⟨ht.1, ht.2.1, ht.2.2⟩)
    · refine JSh1_f (L s' h0 h1) ?_ ?_ ?_ ?_ (fun i _ _ => ?_) (fun i _ _ => ?_)
      · rw [up_c (by decide), up_c (by decide), up_j q]
      · rw [up_j q, up_c (by decide), up_c (by decide)]
      · rw [up_c (by decide), up_j q, up_c (by decide)]
      · rw [up_c (by decide), up_c (by decide), up_c (by decide)]
      · rw [up_c (by decide), up_c (by decide), up_c (by decide)]
      · rw [up_c (by decide), up_c (by decide), up_c (by decide)]
  rcases c with ⟨a, rfl, rfl⟩ | ⟨a, a1, rfl, rfl⟩ | ⟨a, a1, a2, rfl, rfl⟩
  · rcases m with ⟨b0, rfl, rfl⟩ | ⟨b0, b1, rfl, rfl⟩
    · exact ⟨L, rfl⟩
    · exact absurd ⟨b0, b1.imp id eb.mpr⟩ a
  · rcases m with ⟨b0, rfl, rfl⟩ | ⟨b0, b1, rfl, rfl⟩
    · exact absurd ⟨a, Or.inl a1⟩ b0
    · exact ⟨key _ _ _ rfl a (Or.inl ⟨rfl, a1⟩), rfl⟩
  · have eW : mBody (up (up V 69 s 5) 70 s b) b ↔ mBody V b := by
      unfold mBody
      rw [up_c (by decide), up_c (by decide)]
    rcases m with ⟨b0, rfl, rfl⟩ | ⟨b0, b1, rfl, rfl⟩
    · exact absurd ⟨a, Or.inr (eW.mpr (eb.mp a2))⟩ b0
    · exact ⟨key _ _ _ rfl a (Or.inr ⟨rfl, (body_lt J a2).1, rfl⟩), rfl⟩
theorem fillV_o {V : vS} {c : Nat} {A B v j : Int} (h : ¬ (A ≤ j ∧ j < B)) : fillV V c A B v c j = V c j := if_neg (fun q => h q.2)
theorem fillV_i {V : vS} {c : Nat} {A B v j : Int} (h : A ≤ j ∧ j < B) : fillV V c A B v c j = v := if_pos ⟨rfl, h⟩
theorem jx_45 {V V1 V2 : vS} {s t m r1 r2 : Int} (L : JShelf V) (c : R189 V s t m r1 V1) (mm : R320 V1 s t m r2 V2) : JShelf V2 ∧ r1 = r2 := by
  rcases c with ⟨a, rfl, rfl⟩ | ⟨a, a1, rfl, rfl⟩ | ⟨a, a1, rfl, rfl⟩
  · rcases mm with ⟨b0, rfl, rfl⟩ | ⟨b0, -⟩ | ⟨b0, -⟩
    · exact ⟨L, rfl⟩
    · exact absurd b0 a
    · exact absurd b0 a
  · rcases mm with ⟨b0, rfl, rfl⟩ | ⟨b0, b1, rfl, rfl⟩ | ⟨b0, b1, -⟩
    · exact absurd a b0
    · exact ⟨L, rfl⟩
    · omega
  · rcases mm with ⟨b0, rfl, rfl⟩ | ⟨b0, b1, rfl, rfl⟩ | ⟨b0, b1, rfl, rfl⟩
    · exact absurd a b0
    · omega
    · refine ⟨fun s' h0 h1 => ?_, rfl⟩
      obtain ⟨a2, a3, a4⟩ := a
      by_cases q : s' = s
      · subst q
        unfold JSh1
        rw [fillV_c (by decide), up_c (by decide), up_c (by decide), fillV_c (by decide), up_c (by decide), up_s, fillV_c (by decide), up_c (by decide), up_s, fillV_c (by decide), up_c (by decide), up_c (by decide), fillV_c (by decide), up_s, fillV_c (by decide), up_s]
        refine Or.inr (Or.inr ⟨a3.1, a3.2, rfl, rfl, a1, a4, fun i i0 i1 => ?_⟩)
        rw [fillV_c (by decide), up_c (by decide), up_c (by decide), fillV_i (by omega), fillV_i (by omega)]
      · refine JSh1_f (L s' h0 h1) ?_ ?_ ?_ ?_ (fun i _ _ => ?_) (fun i _ _ => ?_)
        · rw [fillV_c (by decide), up_c (by decide), up_c (by decide), fillV_c (by decide), up_c (by decide), up_j q]
        · rw [fillV_c (by decide), up_c (by decide), up_j q, fillV_c (by decide), up_c (by decide), up_c (by decide)]
        · rw [fillV_c (by decide), up_c (by decide), up_c (by decide), fillV_c (by decide), up_j q, up_c (by decide)]
        · rw [fillV_c (by decide), up_j q, up_c (by decide), fillV_c (by decide), up_c (by decide), up_c (by decide)]
        · rw [fillV_c (by decide), up_c (by decide), up_c (by decide), fillV_o (by omega), up_c (by decide), up_c (by decide)]
        · rw [fillV_o (by omega), up_c (by decide), up_c (by decide), fillV_c (by decide), up_c (by decide), up_c (by decide)]
theorem cR1_n {V : vS} {s : Int} (h : V 69 s = -1) : cRow1 V s = -11 := by unfold cRow1; rw [if_pos h]
theorem cR1_b {V : vS} {s : Int} (h : V 69 s = 5) : cRow1 V s = -12 := by unfold cRow1; rw [if_neg (by omega), if_pos h]
theorem cR1_r {V : vS} {s : Int} (h : 0 ≤ V 69 s ∧ V 69 s ≤ 4) : cRow1 V s = 1 := by unfold cRow1; rw [if_neg (by omega), if_neg (by omega)]
theorem why_o {V : vS} {s i : Int} (h : ¬ (0 ≤ s ∧ s ≤ 5)) : mWhy V s i = -1 := by unfold mWhy; rw [if_neg h]
theorem why_n {V : vS} {s i : Int} (h : 0 ≤ s ∧ s ≤ 5) (e : V 142 s = -1) : mWhy V s i = -11 := by unfold mWhy; rw [if_pos h, if_pos e]
theorem why_b {V : vS} {s i : Int} (h : 0 ≤ s ∧ s ≤ 5) (e : 0 ≤ V 142 s) : mWhy V s i = -12 := by unfold mWhy; rw [if_pos h, if_neg (by omega), if_pos e]
theorem why_i {V : vS} {s i : Int} (h : 0 ≤ s ∧ s ≤ 5) (e : V 142 s ≤ -2) (b : 0 ≤ V 143 s ∧ V 143 s ≤ 60) (q : 0 ≤ i ∧ i < V 143 s) : mWhy V s i = 0 := by unfold mWhy; rw [if_pos h, if_neg (by omega), if_neg (by omega), w32_id (by omega) (by omega), if_pos (by omega)]
theorem why_x {V : vS} {s i : Int} (h : 0 ≤ s ∧ s ≤ 5) (e : V 142 s ≤ -2) (b : 0 ≤ V 143 s ∧ V 143 s ≤ 60) (q : ¬ (0 ≤ i ∧ i < V 143 s)) : mWhy V s i = -13 := by unfold mWhy; rw [if_pos h, if_neg (by omega), if_neg (by omega), w32_id (by omega) (by omega), if_neg (by omega)]
theorem jx_46 {V V1 V2 : vS} {s i v r1 r2 : Int} (L : JShelf V) (c : R190 V s i v r1 V1) (m : R322 V1 s i v r2 V2) : JShelf V2 ∧ r1 = r2 := by
  have no : ∀ {r : Int}, mWhy V s i = r → r < 0 → R322 V s i v r2 V2 → V2 = V ∧ r2 = r := by
    intro r e z m
    rcases m with ⟨_, b1, b2⟩ | ⟨b0, _⟩
    · exact ⟨b2, b1.trans e⟩
    · omega
  rcases c with ⟨a, rfl, rfl⟩ | ⟨a, c⟩
  · obtain ⟨rfl, rfl⟩ := no (why_o a) (by decide) m
    exact ⟨L, rfl⟩
  have Ls := L s a.1 a.2
  rcases Ls with ⟨q1, q2⟩ | ⟨q1, q2, q3⟩ | ⟨q1, q2, q3, q4, q5, q6, q7⟩
  · rw [R112, cR1_n q1] at c
    rcases c with ⟨-, rfl, rfl⟩ | ⟨c, -⟩ | ⟨c, -⟩
    · obtain ⟨rfl, rfl⟩ := no (why_n a q2) (by decide) m
      exact ⟨L, rfl⟩
    · exact absurd c (by decide)
    · exact absurd c (by decide)
  · rw [R112, cR1_b q1] at c
    rcases c with ⟨-, rfl, rfl⟩ | ⟨c, -⟩ | ⟨c, -⟩
    · obtain ⟨rfl, rfl⟩ := no (why_b a q2) (by decide) m
      exact ⟨L, rfl⟩
    · exact absurd c (by decide)
    · exact absurd c (by decide)
  · rw [R112, cR1_r ⟨q1, q2⟩] at c
    rcases c with ⟨c, -⟩ | ⟨-, c, rfl, rfl⟩ | ⟨-, c, rfl, rfl⟩
    · exact absurd rfl c
    · obtain ⟨rfl, rfl⟩ := no (why_x a (by omega) ⟨q5, q6⟩ (by omega)) (by decide) m
      exact ⟨L, rfl⟩
    · generalize hW : up V 71 (60 * s + i) (cLow (V 69 s) v) = W at m
      have w : ∀ (c : Nat) (j : Int), c ≠ 71 → W c j = V c j := fun c j h => by rw [← hW, up_c h]
      have ey : mWhy W s i = 0 := why_i a (by rw [w 142 s (by decide)]; omega) (by rw [w 143 s (by decide)]; exact ⟨q5, q6⟩) (by rw [w 143 s (by decide)]; omega)
      rcases m with ⟨b0, _⟩ | ⟨_, rfl, rfl⟩
      · omega
      · refine ⟨fun s' h0 h1 => ?_, rfl⟩
        have ev : cLow (w32 (-2 - W 142 s)) v = cLow (V 69 s) v := by
          rw [w 142 s (by decide), q3, w32_id (by omega) (by omega)]
          congr 1; omega
        rw [ev]
        by_cases q : s' = s
        · subst q
          unfold JSh1
          rw [up_c (by decide), w 69 _ (by decide), up_c (by decide), w 142 _ (by decide), up_c (by decide), w 70 _ (by decide), up_c (by decide), w 143 _ (by decide)]
          refine Or.inr (Or.inr ⟨q1, q2, q3, q4, q5, q6, fun k k0 k1 => ?_⟩)
          rw [up_c (by decide), ← hW, up_p, up_p, up_c (by decide), q7 k k0 k1]
        · refine JSh1_f (L s' h0 h1) ?_ ?_ ?_ ?_ (fun k k0 k1 => ?_) (fun k k0 k1 => ?_)
          · rw [up_c (by decide), w 69 _ (by decide)]
          · rw [up_c (by decide), w 142 _ (by decide)]
          · rw [up_c (by decide), w 70 _ (by decide)]
          · rw [up_c (by decide), w 143 _ (by decide)]
          · rw [up_c (by decide), ← hW, up_j (by omega)]
          · rw [up_j (by omega), w 144 _ (by decide)]
theorem jx_48 {V V1 V2 : vS} {s i o j m r1 r2 : Int} (L : JShelf V) (c : R192 V s i o j m r1 V1) (mm : R324 V1 s i o j m r2 V2) : JShelf V2 ∧ r1 = r2 := by
  rcases c with ⟨a, rfl, rfl⟩ | ⟨a, c⟩
  · rcases mm with ⟨-, rfl, rfl⟩ | ⟨b, -⟩
    · exact ⟨L, rfl⟩
    · exact absurd b a
  have Ls := L s a.1.1 a.1.2
  have Lo := L o a.2.1 a.2.2
  have cs : (V 69 s = -1 → cRow1 V s = -11) ∧ (V 69 s = 5 → cRow1 V s = -12) ∧ (0 ≤ V 69 s → V 69 s ≤ 4 → cRow1 V s = 1) := ⟨cR1_n, cR1_b, fun x y => cR1_r ⟨x, y⟩⟩
  have co : (V 69 o = -1 → cRow1 V o = -11) ∧ (V 69 o = 5 → cRow1 V o = -12) ∧ (0 ≤ V 69 o → V 69 o ≤ 4 → cRow1 V o = 1) := ⟨cR1_n, cR1_b, fun x y => cR1_r ⟨x, y⟩⟩
  rcases c with ⟨c1, rfl, rfl⟩ | ⟨c1, ⟨c2, rfl, rfl⟩ | ⟨c2, ⟨c3, rfl, rfl⟩ | ⟨c3, hr1, rfl⟩⟩⟩
  · rcases mm with ⟨b, -⟩ | ⟨-, ⟨_, rfl, rfl⟩ | ⟨b, -⟩⟩
    · exact absurd a b
    · exact ⟨L, rfl⟩
    · exact absurd (by unfold JSh1 at Ls Lo; omega) b
  · rcases mm with ⟨b, -⟩ | ⟨-, ⟨b, rfl, rfl⟩ | ⟨b1, ⟨_, rfl, rfl⟩ | ⟨b, -⟩⟩⟩
    · exact absurd a b
    · exact absurd (by unfold JSh1 at Ls Lo; omega) c1
    · exact ⟨L, rfl⟩
    · exact absurd (by unfold JSh1 at Ls Lo; omega) b
  · rcases mm with ⟨b, -⟩ | ⟨-, ⟨b, rfl, rfl⟩ | ⟨b1, ⟨b2, rfl, rfl⟩ | ⟨b2, ⟨_, rfl, rfl⟩ | ⟨b, -⟩⟩⟩⟩
    · exact absurd a b
    · exact absurd (by unfold JSh1 at Ls Lo; omega) c1
    · exact absurd (by unfold JSh1 at Ls Lo; omega) c2
    · exact ⟨L, rfl⟩
    · exact absurd (by unfold JSh1 at Ls Lo; omega) b
  · have Ls' : 0 ≤ V 69 s ∧ V 69 s ≤ 4 ∧ V 142 s = -2 - V 69 s ∧ V 70 s = V 143 s ∧ 0 ≤ V 143 s ∧ V 143 s ≤ 60 ∧ ∀ i, 0 ≤ i → i < V 143 s → V 71 (60 * s + i) = V 144 (60 * s + i) := by
      rcases Ls with q | q | q
      · exact absurd (Or.inl (cs.1 q.1)) c1
      · exact absurd (Or.inl (cs.2.1 q.1)) c2
      · exact q
    have Lo' : 0 ≤ V 69 o ∧ V 69 o ≤ 4 ∧ V 142 o = -2 - V 69 o ∧ V 70 o = V 143 o ∧ 0 ≤ V 143 o ∧ V 143 o ≤ 60 ∧ ∀ i, 0 ≤ i → i < V 143 o → V 71 (60 * o + i) = V 144 (60 * o + i) := by
      rcases Lo with q | q | q
      · exact absurd (Or.inr (co.1 q.1)) c1
      · exact absurd (Or.inr (Or.inl (co.2.1 q.1))) c2
      · exact q
    obtain ⟨s1, s2, s3, s4, s5, s6, s7⟩ := Ls'
    obtain ⟨o1, o2, o3, o4, o5, o6, o7⟩ := Lo'
    have e9 : V 69 s = V 69 o := by omega
    have w : ∀ (c : Nat) (k : Int), c ≠ 71 → cpy V 71 (60 * s + i) 71 (60 * o + j) m c k = V c k := fun c k h => cpy_c h
    have w1 := w 142 s (by decide)
    have w2 := w 142 o (by decide)
    have w3 := w 143 s (by decide)
    have w4 := w 143 o (by decide)
    rcases mm with ⟨b, -⟩ | ⟨-, ⟨b, -⟩ | ⟨b1, ⟨b2, -⟩ | ⟨b2, ⟨b3, -⟩ | ⟨b3, hr2, F⟩⟩⟩⟩
    · exact absurd a b
    · omega
    · omega
    · omega
    · refine ⟨fun s' h0 h1 => ?_, hr1.trans hr2.symm⟩
      have F2 : ∀ (c : Nat) (k : Int), c ≠ 145 → c ≠ 144 → V2 c k = cpy V 71 (60 * s + i) 71 (60 * o + j) m c k := fun c k h h' => by rw [F c k h, cpy_c h']
      have F3 : ∀ (c : Nat) (k : Int), c ≠ 145 → c ≠ 144 → c ≠ 71 → V2 c k = V c k := fun c k h h' h'' => by rw [F2 c k h h', w c k h'']
      by_cases q : s' = o
      · subst q
        unfold JSh1
        rw [F3 69 _ (by decide) (by decide) (by decide), F3 142 _ (by decide) (by decide) (by decide), F3 70 _ (by decide) (by decide) (by decide), F3 143 _ (by decide) (by decide) (by decide)]
        refine Or.inr (Or.inr ⟨o1, o2, o3, o4, o5, o6, fun k k0 k1 => ?_⟩)
        rw [F2 71 _ (by decide) (by decide), F 144 _ (by decide)]
        unfold cpy
        by_cases z : j ≤ k ∧ k < j + m
        · rw [if_pos ⟨rfl, by omega, by omega⟩, if_pos ⟨rfl, by omega, by omega⟩, if_neg (fun y => absurd y.1 (by decide))]
          have := s7 (i + (k - j)) (by omega) (by omega)
          rw [show 60 * s + i + (60 * s' + k - (60 * s' + j)) = 60 * s + (i + (k - j)) by omega]
          exact this
        · rw [if_neg (fun y => z ⟨by omega, by omega⟩), if_neg (fun y => z ⟨by omega, by omega⟩), if_neg (fun y => absurd y.1 (by decide))]
          exact o7 k k0 k1
      · refine JSh1_f (L s' h0 h1) (F3 69 _ (by decide) (by decide) (by decide)) (F3 142 _ (by decide) (by decide) (by decide)) (F3 70 _ (by decide) (by decide) (by decide)) (F3 143 _ (by decide) (by decide) (by decide)) (fun k k0 k1 => ?_) (fun k k0 k1 => ?_)
        · rw [F2 71 _ (by decide) (by decide)]
          unfold cpy
          rw [if_neg (fun y => by omega)]
        · rw [F 144 _ (by decide)]
          unfold cpy
          rw [if_neg (fun y => by omega), if_neg (fun y => absurd y.1 (by decide))]
theorem jx_49 {V : vS} {s k r1 r2 : Int} (J : JBody V) (L : JShelf V) (c : R193 V s k r1) (m : R325 V s k r2) : r1 = r2 := by
  rcases c with ⟨a, rfl⟩ | ⟨a, c⟩
  · rcases m with ⟨-, rfl⟩ | ⟨b, -⟩
    · rfl
    · exact absurd b a
  · rcases m with ⟨b, -⟩ | ⟨-, m⟩
    · exact absurd a b
    have Ls := L s a.1.1 a.1.2
    rw [← J.2.1] at m
    unfold JSh1 at Ls
    have e : V 69 s = 5 → V 70 s = V 142 s := by omega
    unfold uF at c m
    by_cases z : V 69 s = 5
    · rw [e z] at c
      omega
    · omega
end
section
-- ===== the rows of squares of both sides are one =====
def tb (a : Int) (x : Nat) : Bool := (Int32.ofInt a).toBitVec.getLsbD x
end

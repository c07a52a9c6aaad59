-- ===== 82zyzac.rate: 5 texts =====
section
-- ===== the rate of errors =====
-- sums by permutation
theorem sgm_z : ∀ n : Nat, sgm (fun _ => 0) n = 0
  | 0 => rfl
  | n + 1 => by rw [sgm_s, sgm_z n]; rfl
theorem sgm_add (f g : Int → Int) : ∀ n : Nat, sgm (fun j => f j + g j) n = sgm f n + sgm g n
  | 0 => rfl
  | n + 1 => by
    rw [sgm_s, sgm_s, sgm_s, sgm_add f g n]
    omega
theorem sgm_swap (F : Int → Int → Int) (m : Nat) : ∀ n : Nat, sgm (fun i => sgm (fun j => F i j) m) n = sgm (fun j => sgm (fun i => F i j) n) m
  | 0 => (sgm_z m).symm
  | n + 1 => by
    rw [sgm_s, sgm_swap F m n, ← sgm_add]
    exact sgm_c m (fun j _ _ => rfl)
theorem sgm_one (x : Int → Int) (a : Int) : ∀ n : Nat, sgm (fun j => pI (j = a) (x j)) n = pI (0 ≤ a ∧ a < (n : Int)) (x a)
  | 0 => (pI_f (by omega)).symm
  | n + 1 => by
    rw [sgm_s, sgm_one x a n]
    by_cases z : (n : Int) = a
    · rw [pI_f (by omega), pI_t z, pI_t (by omega), z, Int.zero_add]
    · rw [pI_f z, Int.add_zero]
      exact pI_c (by omega) (fun _ => rfl)
theorem sgm_perm {s : Int → Int} {N : Nat} (r : ∀ p, 0 ≤ p → p < (N : Int) → 0 ≤ s p ∧ s p < (N : Int)) (i : ∀ p p', 0 ≤ p → p < (N : Int) → 0 ≤ p' → p' < (N : Int) → s p = s p' → p = p') (u : ∀ c, 0 ≤ c → c < (N : Int) → ∃ p, (0 ≤ p ∧ p < (N : Int)) ∧ s p = c) (g : Int → Int) : sgm (fun p => g (s p)) N = sgm g N := by
  have e1 : sgm (fun p => g (s p)) N = sgm (fun p => sgm (fun c => pI (c = s p) (g c)) N) N := sgm_c N (fun p a b => by rw [sgm_one, pI_t (r p a b)])
  have e2 : sgm (fun c => sgm (fun p => pI (c = s p) (g c)) N) N = sgm g N := sgm_c N (fun c a b => by
    obtain ⟨p0, ⟨h0, h1⟩, e⟩ := u c a b
    rw [sgm_c (g := fun p => pI (p = p0) (g c)) N (fun p a' b' => pI_c ⟨fun z => i p p0 a' b' h0 h1 (z.symm.trans e.symm), fun z => by rw [z, e]⟩ (fun _ => rfl)), sgm_one (fun _ => g c), pI_t ⟨h0, h1⟩])
  rw [e1, sgm_swap, e2]
theorem lis_sum {V : vS} {q : Nat} {y k : Int} (L : lis V q y k) (F : Int → Int) : ∀ P : Nat, (P : Int) ≤ V 16 1 → sgm (fun i => F (V (q + 1) i)) (cnN V y k P) = sgm (fun p => pI (cnt V p y k) (F (V 21 p))) P
  | 0, _ => rfl
  | P + 1, h => by
    have ih := lis_sum L F P (by omega)
    by_cases z : cnt V (P : Nat) y k
    · rw [cnN_t z, sgm_s, sgm_s, ih, pI_t z, L.2 P (by omega) z]
    · rw [cnN_f z, sgm_s, pI_f z, Int.add_zero]
      exact ih
theorem ord_inj {V : vS} (O : JOrd V) : ∀ p p', 0 ≤ p → p < V 16 1 → 0 ≤ p' → p' < V 16 1 → V 21 p = V 21 p' → p = p' := fun p p' a b a' b' e => by
  rcases Int.lt_trichotomy p p' with z | z | z
  · have := O.2.1 p p' a z b'
    unfold lxl at this
    rw [e] at this
    omega
  · exact z
  · have := O.2.1 p' p a' z b
    unfold lxl at this
    rw [e] at this
    omega
theorem all_sum {V : vS} {q : Nat} {y k : Int} (E : EQ V) (L : lis V q y k) (F : Int → Int) : sgm (fun i => F (V (q + 1) i)) (V q 5).toNat = sgm (fun c => pI (LkM V k y c) (F c)) (V 72 19).toNat := by
  obtain ⟨C, B, Od, hd, -⟩ := E
  have hN := C.2.2.2.2.2.1
  have eN : (((V 16 1).toNat : Nat) : Int) = V 16 1 := by omega
  have s1 := lis_sum L F (V 16 1).toNat (by omega)
  rw [L.1, Int.toNat_natCast, s1, ← C.1]
  have s2 : sgm (fun p => pI (cnt V p y k) (F (V 21 p))) (V 16 1).toNat = sgm (fun p => pI (LkM V k y (V 21 p)) (F (V 21 p))) (V 16 1).toNat := sgm_c _ (fun p a b => pI_c (cnt_l C B Od hd a (by omega)) (fun _ => rfl))
  rw [s2]
  refine sgm_perm (s := fun p => V 21 p) (fun p a b => ?_) (fun p p' a b a' b' => ?_) (fun c a b => ?_) (fun c => pI (LkM V k y c) (F c))
  · have := Od.1 p a (by omega)
    exact ⟨this.1, by omega⟩
  · exact ord_inj Od p p' a (by omega) a' (by omega)
  · obtain ⟨p, hp, e⟩ := Od.2.2.1 c a (by omega)
    exact ⟨p, ⟨hp.1, by omega⟩, e⟩
theorem sgm_b {f : Int → Int} {B : Int} : ∀ n : Nat, (∀ j : Int, 0 ≤ j → j < (n : Int) → 0 ≤ f j ∧ f j ≤ B) → 0 ≤ sgm f n ∧ sgm f n ≤ B * (n : Int)
  | 0, _ => ⟨Int.le_refl _, by show (0 : Int) ≤ B * ((0 : Nat) : Int); rw [Int.natCast_zero, Int.mul_zero]; exact Int.le_refl _⟩
  | n + 1, h => by
    have ih := sgm_b n (fun j a b => h j a (by omega))
    have hn := h (n : Nat) (by omega) (by omega)
    rw [sgm_s, Int.natCast_add, Int.mul_add, show B * ((1 : Nat) : Int) = B from Int.mul_one B]
    omega
theorem sgm_sub (f g : Int → Int) : ∀ n : Nat, sgm (fun j => f j - g j) n = sgm f n - sgm g n
  | 0 => rfl
  | n + 1 => by
    rw [sgm_s, sgm_s, sgm_s, sgm_sub f g n]
    omega
theorem pI_p {p p' : Prop} {x : Int} : pI p (pI p' x) = pI (p ∧ p') x := by
  by_cases h : p
  · by_cases h' : p'
    · rw [pI_t h, pI_t h', pI_t ⟨h, h'⟩]
    · rw [pI_t h, pI_f h', pI_f (fun z => h' z.2)]
  · rw [pI_f h, pI_f (fun z => h z.1)]
theorem pI_b {p : Prop} {x B : Int} (h : 0 ≤ x ∧ x ≤ B) : 0 ≤ pI p x ∧ pI p x ≤ B := by
  by_cases z : p
  · rw [pI_t z]; exact h
  · rw [pI_f z]; omega
-- what a farm has in a year, on both sides
noncomputable def vL (V : vS) (k c : Int) : Int := min (vG V k c) (mmg V c k (V 72 32).toNat)
noncomputable def fSm (V : vS) (k y f : Int) (g : Int → Int) : Int := sgm (fun c => pI (LkM V k y c ∧ V 87 c = f) (g c)) (V 72 19).toNat
theorem size_v {V : vS} {q : Nat} {y k : Int} (A : AP V) (S : scK V q y k) {i : Int} (i0 : 0 ≤ i) (iN : i < V q 5) : V (q + 2) i = vG V k (V (q + 1) i) ∧ V (q + 3) i = vL V k (V (q + 1) i) := by
  obtain ⟨E, O, K, N, -⟩ := A
  have E0 := E
  obtain ⟨C, B, Od, hd, -⟩ := E0
  obtain ⟨⟨q2, q3⟩, L, sz, fl, ls, -⟩ := S
  obtain ⟨p, pN, zc, ci, e⟩ := li_s L i0 iN
  have l0 := (cnt_l C B Od hd (by omega) pN).mp zc
  rw [← e] at l0
  have sv : V (q + 2) i = vG V k (V (q + 1) i) := by
    unfold vG
    rw [sz i i0 iN, l0.2]
    exact size_e E L O N.2.1 N.2.2 q2 q3 i0 iN 24 (Nat.le_refl _)
  refine ⟨sv, ?_⟩
  have me : msg V (V (q + 1) i) y k (V 16 3).toNat = mmg V (V (q + 1) i) k (V 72 32).toNat := by
    rw [← l0.2, msg_e C K, K.1]
  unfold vL
  rw [ls i i0 iN, sv, me]
theorem tot_e {V : vS} {q : Nat} {y k f : Int} (A : AP V) (S : scK V q y k) (hf : 0 ≤ f ∧ f < 150) : V (q + 5) f = fSm V k y f (vG V k) ∧ V (q + 6) f = fSm V k y f (vL V k) ∧ (0 ≤ V (q + 5) f ∧ V (q + 5) f ≤ 172800) ∧ 0 ≤ V (q + 6) f ∧ V (q + 6) f ≤ V (q + 5) f := by
  have S0 := S
  have E := A.1
  have K := A.2.2.1
  obtain ⟨-, L, -, -, -, T⟩ := S
  obtain ⟨t5, t6, -⟩ := T f hf.1 hf.2
  have C := E.1
  have hN : 0 ≤ V 72 19 ∧ V 72 19 ≤ 300 := by rw [← C.1]; exact C.2.2.2.2.2
  have st : ∀ (r : Nat) (g : Int → Int), (∀ i, 0 ≤ i → i < V q 5 → V r i = g (V (q + 1) i)) → tSm V q r f (V q 5).toNat = fSm V k y f g := fun r g h => by
    unfold tSm fSm
    have e1 : sgm (fun i => pI (fmA V (q + 1) i = f) (V r i)) (V q 5).toNat = sgm (fun i => (fun c => pI (V 17 c = f) (g c)) (V (q + 1) i)) (V q 5).toNat := sgm_c _ (fun i a b => pI_c (by unfold fmA; exact Iff.rfl) (fun _ => h i a (by omega)))
    refine e1.trans ((all_sum E L (fun c => pI (V 17 c = f) (g c))).trans ?_)
    refine sgm_c _ (fun c _ _ => ?_)
    show pI (LkM V k y c) (pI (V 17 c = f) (g c)) = _
    rw [pI_p, C.2.1]
  have gb : ∀ c, 0 ≤ vG V k c ∧ vG V k c ≤ 576 := fun c => nQ_b _ 576
  have mb : ∀ c, 0 ≤ mmg V c k (V 72 32).toNat := fun c => by
    rw [← K.1, ← msg_e C K]
    exact (msg_b A.2.2.2.1.1 c _ k _).1
  have lb : ∀ c, 0 ≤ vL V k c ∧ vL V k c ≤ 576 := fun c => by
    have := gb c
    have := mb c
    unfold vL
    omega
  have b5 := sgm_b (B := 576) (V 72 19).toNat (fun c (_ : 0 ≤ c) _ => pI_b (p := LkM V k y c ∧ V 87 c = f) (gb c))
  have b6 := sgm_b (B := 576) (V 72 19).toNat (fun c (_ : 0 ≤ c) _ => pI_b (p := LkM V k y c ∧ V 87 c = f) (lb c))
  have bd := sgm_b (B := 576) (f := fun c => pI (LkM V k y c ∧ V 87 c = f) (vG V k c) - pI (LkM V k y c ∧ V 87 c = f) (vL V k c)) (V 72 19).toNat (fun c _ _ => by
    have := gb c
    have := mb c
    by_cases z : LkM V k y c ∧ V 87 c = f
    · rw [pI_t z, pI_t z]
      unfold vL
      omega
    · rw [pI_f z, pI_f z]
      omega)
  rw [sgm_sub] at bd
  rw [st (q + 2) (vG V k) (fun i a b => (size_v A S0 a b).1)] at t5
  rw [st (q + 3) (vL V k) (fun i a b => (size_v A S0 a b).2)] at t6
  unfold fSm at t5 t6 ⊢
  rw [w32_id (by omega) (by omega)] at t5 t6
  exact ⟨t5, t6, by omega, by omega⟩
end
section
-- ===== the rate of errors =====
-- what a reckoning holds, read by farm
def rkd (V W : vS) (k : Int) : Prop := (W 72 19 = V 72 19 ∧ (∀ c, W 87 c = V 87 c) ∧ ∀ c, W 90 c = V 90 c) ∧ (∀ c, 0 ≤ c → c < V 72 19 → W 103 c = bI (mcn V c k)) ∧ ∀ c, 0 ≤ c → c < V 72 19 → mcn V c k → 0 ≤ iDiv (V 90 c) 365 → iDiv (V 90 c) 365 < 10 → W 104 c = vG V k c ∧ W 105 c = vF V k c
theorem rkd_R {V W : vS} {k : Int} (R : R239 V k W) : rkd V W k := ⟨⟨agR_y R.1.1 (by decide) (by decide), fun c => agR_x R.1.1 87 c (by decide) (by decide), fun c => agR_x R.1.1 90 c (by decide) (by decide)⟩, R.1.2.2, fun c a b m y0 y1 => ⟨(R.2 c a b m y0 y1).1, (R.2 c a b m y0 y1).2.2⟩⟩
theorem mSm_e {V W : vS} {k y f : Int} (R : rkd V W k) (hy : 0 ≤ y ∧ y ≤ 9) {r : Nat} {g : Int → Int} (hr : ∀ c, 0 ≤ c → c < V 72 19 → mcn V c k → 0 ≤ iDiv (V 90 c) 365 → iDiv (V 90 c) 365 < 10 → W r c = g c) : mSm W f y r (W 72 19).toNat = fSm V k y f g := by
  obtain ⟨⟨e19, e87, e90⟩, a, -⟩ := R
  unfold mSm fSm
  rw [e19]
  refine sgm_c _ (fun c c0 cN => ?_)
  rw [e87, e90, a c c0 (by omega)]
  unfold LkM
  refine pI_c ⟨fun z => ⟨⟨?_, z.2.2⟩, z.2.1⟩, fun z => ⟨by rw [bI_t z.1.1]; decide, z.2, z.1.2⟩⟩ (fun z => ?_)
  · by_cases m : mcn V c k
    · exact m
    · exact absurd (bI_f m) z.1
  · have m : mcn V c k := by
      by_cases m : mcn V c k
      · exact m
      · exact absurd (bI_f m) z.1
    exact hr c c0 (by omega) m (by rw [z.2.2]; exact hy.1) (by rw [z.2.2]; omega)
theorem err_e {V W : vS} {q : Nat} {y k f : Int} (A : AP V) (S : scK V q y k) (R : rkd V W k) (hy : 0 ≤ y ∧ y ≤ 9) (hf : 0 ≤ f ∧ f < 150) : cErr V q f = mErr W f y := by
  obtain ⟨t5, t6, b5, b6⟩ := tot_e A S hf
  have s4 := mSm_e (f := f) R hy (r := 104) (g := vG V k) (fun c a b m y0 y1 => (R.2.2 c a b m y0 y1).1)
  have s5 := mSm_e (f := f) R hy (r := 105) (g := vF V k) (fun c a b m y0 y1 => (R.2.2 c a b m y0 y1).2)
  have K := A.2.2.1
  have C := A.1.1
  have gb : ∀ c, 0 ≤ vG V k c ∧ vG V k c ≤ 576 := fun c => nQ_b _ 576
  have mb : ∀ c, 0 ≤ mmg V c k (V 72 32).toNat ∧ mmg V c k (V 72 32).toNat ≤ 576 := fun c => by
    rw [← K.1, ← msg_e C K]
    exact msg_b A.2.2.2.1.1 c _ k _
  have fd : fSm V k y f (vF V k) = fSm V k y f (vG V k) - fSm V k y f (vL V k) := by
    unfold fSm
    rw [← sgm_sub]
    refine sgm_c _ (fun c _ _ => ?_)
    by_cases z : LkM V k y c ∧ V 87 c = f
    · rw [pI_t z, pI_t z, pI_t z]
      have := gb c
      have := mb c
      unfold vF vL
      rw [w32_id (by omega) (by omega)]
      split <;> omega
    · rw [pI_f z, pI_f z, pI_f z]
      rfl
  unfold cErr mErr
  rw [s4, s5, fd, ← t5, ← t6, w32_id (z := V (q + 5) f) (by omega) (by omega), w32_id (z := V (q + 5) f - V (q + 6) f) (by omega) (by omega), w32_id (z := V (q + 5) f - (V (q + 5) f - V (q + 6) f)) (by omega) (by omega), show V (q + 5) f - (V (q + 5) f - V (q + 6) f) = V (q + 6) f by omega]
end
section
-- ===== the rate of errors =====
-- powers and chances, as both sides reckon them
def pwF (b : Int) : Nat → Int
  | 0 => 1
  | k + 1 => w64 (pwF b k * b)
def cWy (n : Int) : Nat → Int
  | 0 => 1
  | i + 1 => jDiv (w64 (cWy n i * w32 (n - (i : Nat)))) (w32 ((i : Nat) + 1))
def mWi (d : Int) : Nat → Int
  | 0 => 1
  | j + 1 => jDiv (w64 (mWi d j * w32 (d + ((j : Nat) + 1)))) ((j : Nat) + 1)
def mWy (n : Int) (k : Nat) : Int := mWi (w32 (n - (k : Nat))) k
def tCh (W : Nat → Int) (n p : Int) (i : Nat) : Int := w64 (w64 (W i * pwF p i) * pwF (w32 (100 - p)) (w32 (n - (i : Nat))).toNat)
def gSm (t : Nat → Int) (a b : Int) : Nat → Int
  | 0 => 0
  | i + 1 => if a ≤ (i : Int) ∧ (i : Int) ≤ b then w64 (gSm t a b i + t i) else gSm t a b i
theorem ways_e : ∀ n i : Fin 9, i.val ≤ n.val → cWy (n.val : Int) i.val = mWy (n.val : Int) i.val := by decide +kernel
theorem gSm_c {t t' : Nat → Int} {a b : Int} : ∀ k : Nat, (∀ i, i < k → t i = t' i) → gSm t a b k = gSm t' a b k
  | 0, _ => rfl
  | k + 1, h => by
    have e : ∀ t : Nat → Int, gSm t a b (k + 1) = if a ≤ (k : Int) ∧ (k : Int) ≤ b then w64 (gSm t a b k + t k) else gSm t a b k := fun _ => rfl
    rw [e, e, gSm_c k (fun i hi => h i (by omega)), h k (by omega)]
theorem gSm_stop {t : Nat → Int} {a b : Int} {m : Nat} (hm : (m : Int) = b + 1) : ∀ d : Nat, gSm t a b (m + d) = gSm t a b m
  | 0 => rfl
  | d + 1 => by
    have e : gSm t a b (m + d + 1) = if a ≤ ((m + d : Nat) : Int) ∧ ((m + d : Nat) : Int) ≤ b then w64 (gSm t a b (m + d) + t (m + d)) else gSm t a b (m + d) := rfl
    rw [show m + (d + 1) = m + d + 1 from rfl, e, if_neg (by omega), gSm_stop hm d]
theorem gSm_low {t : Nat → Int} {a b : Int} : ∀ k : Nat, (k : Int) ≤ a → gSm t a b k = 0
  | 0, _ => rfl
  | k + 1, h => by
    have e : gSm t a b (k + 1) = if a ≤ (k : Int) ∧ (k : Int) ≤ b then w64 (gSm t a b k + t k) else gSm t a b k := rfl
    rw [e, if_neg (by omega), gSm_low k (by omega)]

theorem d69_0 {n : Nat} {X : aX} {h : aH} {P : Int → aH → Prop} {x2 : Int32} {x0 : Int64} {a2 a0 : Int} (S : wS h) (z0 : x0.toInt = a0) (z2 : x2.toInt = a2) (H : (∀ (w3 : Int64) (w5 : Int32), w3.toInt = 1 → w5.toInt = 0 → Pt n X zM69 5 [some (.long x0), none, some (.int x2), some (.long w3), none, some (.int w5)] [] h (qJ P))) : Pt (n + 1) X zM69 0 [some (.long x0), none, some (.int x2), none, none, none] [] h (qJ P) := by
  refine pt_lconst (c := 1) gx69_0 rfl (fun v1 h1 => ?_)
  refine pt_d (pt_1 (fun n d => r_lstoren (L' := [some (.long x0), none, some (.int x2), some (.long v1), none, none]) gx69_1 rfl rfl) ?_)
  refine pt_d (pt_iconst gx69_2 (fun v2 h2 => ?_))
  refine pt_d (pt_1 (fun n d => r_istore (L' := [some (.long x0), none, some (.int x2), some (.long v1), none, some (.int v2)]) gx69_3 rfl rfl) ?_)
  exact H v1 v2 h1 h2
theorem d69_5 {n : Nat} {X : aX} {h : aH} {P : Int → aH → Prop} {x2 x5 : Int32} {x0 x3 : Int64} {a2 a5 a0 a3 : Int} (S : wS h) (z0 : x0.toInt = a0) (z2 : x2.toInt = a2) (z3 : x3.toInt = a3) (z5 : x5.toInt = a5) (H : ((a2 ≤ a5 → P a3 h) ∧ (a5 < a2 → (∀ (w3 : Int64) (w5 : Int32), w3.toInt = w64 (a3 * a0) → w5.toInt = w32 (a5 + 1) → Pt n X zM69 5 [some (.long x0), none, some (.int x2), some (.long w3), none, some (.int w5)] [] h (qJ P))))) : Pt (n + 1) X zM69 5 [some (.long x0), none, some (.int x2), some (.long x3), none, some (.int x5)] [] h (qJ P) := by
  refine pt_1 (fun n d => r_iload gx69_5 rfl) ?_
  refine pt_d (pt_1 (fun n d => r_iloadn gx69_7 rfl) ?_)
  refine pt_d (pt_icmp_ge gx69_8 z5 z2 (fun e1 => ?_) (fun e1 => ?_))
  · have H := H.1 e1
    refine pt_d (pt_1 (fun n d => r_lloadn gx69_21 rfl) ?_)
    exact pt_d (pt_lret gx69_22 ⟨_, rfl, by rw [z3]; exact H⟩)
  · have H := H.2 e1
    refine pt_d (pt_1 (fun n d => r_lloadn gx69_11 rfl) ?_)
    refine pt_d (pt_1 (fun n d => r_lloadn gx69_12 rfl) ?_)
    refine pt_d (pt_lmul gx69_13 z3 z0 (fun v2 h2 => ?_))
    refine pt_d (pt_1 (fun n d => r_lstoren (L' := [some (.long x0), none, some (.int x2), some (.long v2), none, some (.int x5)]) gx69_14 rfl rfl) ?_)
    refine pt_d (pt_iinc (c := 1) gx69_15 rfl z5 (fun v3 h3 => ?_))
    show Pt _ _ _ _ [some (.long x0), none, some (.int x2), some (.long v2), none, some (.int v3)] [] _ _
    refine pt_d (pt_1 (fun n d => r_goto gx69_18) ?_)
    exact H v2 v3 h2 h3
theorem d296_0 {n : Nat} {X : aX} {h : aH} {P : Int → aH → Prop} {x2 : Int32} {x0 : Int64} {a2 a0 : Int} (S : wS h) (z0 : x0.toInt = a0) (z2 : x2.toInt = a2) (H : (∀ (w3 : Int64) (w5 : Int32), w3.toInt = 1 → w5.toInt = 0 → Pt n X zM296 5 [some (.long x0), none, some (.int x2), some (.long w3), none, some (.int w5)] [] h (qJ P))) : Pt (n + 1) X zM296 0 [some (.long x0), none, some (.int x2), none, none, none] [] h (qJ P) := by
  refine pt_lconst (c := 1) gx296_0 rfl (fun v1 h1 => ?_)
  refine pt_d (pt_1 (fun n d => r_lstoren (L' := [some (.long x0), none, some (.int x2), some (.long v1), none, none]) gx296_1 rfl rfl) ?_)
  refine pt_d (pt_iconst gx296_2 (fun v2 h2 => ?_))
  refine pt_d (pt_1 (fun n d => r_istore (L' := [some (.long x0), none, some (.int x2), some (.long v1), none, some (.int v2)]) gx296_3 rfl rfl) ?_)
  exact H v1 v2 h1 h2
theorem d296_5 {n : Nat} {X : aX} {h : aH} {P : Int → aH → Prop} {x2 x5 : Int32} {x0 x3 : Int64} {a2 a5 a0 a3 : Int} (S : wS h) (z0 : x0.toInt = a0) (z2 : x2.toInt = a2) (z3 : x3.toInt = a3) (z5 : x5.toInt = a5) (H : ((a2 ≤ a5 → P a3 h) ∧ (a5 < a2 → (∀ (w3 : Int64) (w5 : Int32), w3.toInt = w64 (a3 * a0) → w5.toInt = w32 (a5 + 1) → Pt n X zM296 5 [some (.long x0), none, some (.int x2), some (.long w3), none, some (.int w5)] [] h (qJ P))))) : Pt (n + 1) X zM296 5 [some (.long x0), none, some (.int x2), some (.long x3), none, some (.int x5)] [] h (qJ P) := by
  refine pt_1 (fun n d => r_iload gx296_5 rfl) ?_
  refine pt_d (pt_1 (fun n d => r_iloadn gx296_7 rfl) ?_)
  refine pt_d (pt_icmp_ge gx296_8 z5 z2 (fun e1 => ?_) (fun e1 => ?_))
  · have H := H.1 e1
    refine pt_d (pt_1 (fun n d => r_lloadn gx296_21 rfl) ?_)
    exact pt_d (pt_lret gx296_22 ⟨_, rfl, by rw [z3]; exact H⟩)
  · have H := H.2 e1
    refine pt_d (pt_1 (fun n d => r_lloadn gx296_11 rfl) ?_)
    refine pt_d (pt_1 (fun n d => r_lloadn gx296_12 rfl) ?_)
    refine pt_d (pt_lmul gx296_13 z3 z0 (fun v2 h2 => ?_))
    refine pt_d (pt_1 (fun n d => r_lstoren (L' := [some (.long x0), none, some (.int x2), some (.long v2), none, some (.int x5)]) gx296_14 rfl rfl) ?_)
    refine pt_d (pt_iinc (c := 1) gx296_15 rfl z5 (fun v3 h3 => ?_))
    show Pt _ _ _ _ [some (.long x0), none, some (.int x2), some (.long v2), none, some (.int v3)] [] _ _
    refine pt_d (pt_1 (fun n d => r_goto gx296_18) ?_)
    exact H v2 v3 h2 h3
theorem l_69 {X : aX} {h : aH} {b m : Int} (S : wS h) (hm : m ≤ 1000) : ∀ (n : Nat) (x0 : Int64) (x2 : Int32) (x3 : Int64) (x5 : Int32) (k : Nat), x0.toInt = b → x2.toInt = m → x3.toInt = pwF b k → x5.toInt = (k : Int) → (k = 0 ∨ (k : Int) ≤ m) → Pt n X zM69 5 [some (.long x0), none, some (.int x2), some (.long x3), none, some (.int x5)] [] h (qJ (fun y h' => h' = h ∧ y = pwF b m.toNat)) := by
  intro n
  induction n with
  | zero => intros; exact pt_z
  | succ n ih =>
    intro x0 x2 x3 x5 k h0 h2 h3 h5 hk
    refine d69_5 S h0 h2 h3 h5 ⟨fun e => ⟨rfl, ?_⟩, fun e w3 w5 g3 g5 => ?_⟩
    · rw [show m.toNat = k by omega]
    · replace g5 := w_1 g5 (by omega) (by omega)
      exact ih x0 x2 w3 w5 (k + 1) h0 h2 g3 (by omega) (Or.inr (by omega))
theorem c_69 {n : Nat} {X : aX} {h : aH} {x2 : Int32} {x0 : Int64} {a2 a0 : Int} (S : wS h) (z0 : x0.toInt = a0) (z2 : x2.toInt = a2) (hp : a2 ≤ 1000) : Pt n X zM69 0 [some (.long x0), none, some (.int x2), none, none, none] [] h (qJ (fun y h' => h' = h ∧ y = pwF a0 a2.toNat)) :=
  pt_d (d69_0 S z0 z2 (fun w3 w5 g3 g5 => l_69 S hp n x0 x2 w3 w5 0 z0 z2 g3 g5 (Or.inl rfl)))

theorem l_296 {X : aX} {h : aH} {b m : Int} (S : wS h) (hm : m ≤ 1000) : ∀ (n : Nat) (x0 : Int64) (x2 : Int32) (x3 : Int64) (x5 : Int32) (k : Nat), x0.toInt = b → x2.toInt = m → x3.toInt = pwF b k → x5.toInt = (k : Int) → (k = 0 ∨ (k : Int) ≤ m) → Pt n X zM296 5 [some (.long x0), none, some (.int x2), some (.long x3), none, some (.int x5)] [] h (qJ (fun y h' => h' = h ∧ y = pwF b m.toNat)) := by
  intro n
  induction n with
  | zero => intros; exact pt_z
  | succ n ih =>
    intro x0 x2 x3 x5 k h0 h2 h3 h5 hk
    refine d296_5 S h0 h2 h3 h5 ⟨fun e => ⟨rfl, ?_⟩, fun e w3 w5 g3 g5 => ?_⟩
    · rw [show m.toNat = k by omega]
    · replace g5 := w_1 g5 (by omega) (by omega)
      exact ih x0 x2 w3 w5 (k + 1) h0 h2 g3 (by omega) (Or.inr (by omega))
theorem c_296 {n : Nat} {X : aX} {h : aH} {x2 : Int32} {x0 : Int64} {a2 a0 : Int} (S : wS h) (z0 : x0.toInt = a0) (z2 : x2.toInt = a2) (hp : a2 ≤ 1000) : Pt n X zM296 0 [some (.long x0), none, some (.int x2), none, none, none] [] h (qJ (fun y h' => h' = h ∧ y = pwF a0 a2.toNat)) :=
  pt_d (d296_0 S z0 z2 (fun w3 w5 g3 g5 => l_296 S hp n x0 x2 w3 w5 0 z0 z2 g3 g5 (Or.inl rfl)))

theorem d68_0 {n : Nat} {X : aX} {h : aH} {P : Int → aH → Prop} {x1 x2 x3 : Int32} {a1 a2 a3 : Int} (S : wS h) (z1 : x1.toInt = a1) (z2 : x2.toInt = a2) (z3 : x3.toInt = a3) (H : (∀ (w4 : Int64) (w6 : Int64) (w8 : Int32), w4.toInt = 0 → w6.toInt = 1 → w8.toInt = 0 → Pt n X zM68 9 [some (.ref 48), some (.int x1), some (.int x2), some (.int x3), some (.long w4), none, some (.long w6), none, some (.int w8)] [] h (qJ P))) : Pt (n + 1) X zM68 0 [some (.ref 48), some (.int x1), some (.int x2), some (.int x3), none, none, none, none, none] [] h (qJ P) := by
  refine pt_lconst (c := 0) gx68_0 rfl (fun v1 h1 => ?_)
  refine pt_d (pt_1 (fun n d => r_lstore (L' := [some (.ref 48), some (.int x1), some (.int x2), some (.int x3), some (.long v1), none, none, none, none]) gx68_1 rfl rfl) ?_)
  refine pt_d (pt_lconst (c := 1) gx68_3 rfl (fun v2 h2 => ?_))
  refine pt_d (pt_1 (fun n d => r_lstore (L' := [some (.ref 48), some (.int x1), some (.int x2), some (.int x3), some (.long v1), none, some (.long v2), none, none]) gx68_4 rfl rfl) ?_)
  refine pt_d (pt_iconst gx68_6 (fun v3 h3 => ?_))
  refine pt_d (pt_1 (fun n d => r_istore (L' := [some (.ref 48), some (.int x1), some (.int x2), some (.int x3), some (.long v1), none, some (.long v2), none, some (.int v3)]) gx68_7 rfl rfl) ?_)
  exact H v1 v2 v3 h1 h2 h3
theorem d68_9 {n : Nat} {X : aX} {h : aH} {P : Int → aH → Prop} {x1 x2 x3 x8 : Int32} {x4 x6 : Int64} {a1 a2 a3 a8 a4 a6 : Int} (S : wS h) (z1 : x1.toInt = a1) (z2 : x2.toInt = a2) (z3 : x3.toInt = a3) (z4 : x4.toInt = a4) (z6 : x6.toInt = a6) (z8 : x8.toInt = a8) (H : ((vw h 48 15 < a8 → P a4 h) ∧ (a8 ≤ vw h 48 15 → ((¬ (a1 ≤ a8 ∧ a8 ≤ a2) → (∀ (w6 : Int64) (w8 : Int32), w6.toInt = jDiv (w64 (a6 * (w32 ((vw h 48 15) - a8)))) (w32 (a8 + 1)) → w8.toInt = w32 (a8 + 1) → Pt n X zM68 9 [some (.ref 48), some (.int x1), some (.int x2), some (.int x3), some (.long x4), none, some (.long w6), none, some (.int w8)] [] h (qJ P))) ∧ ((a1 ≤ a8 ∧ a8 ≤ a2) → ((a8 ≤ 1000) ∧ ((w32 ((vw h 48 15) - a8) ≤ 1000) ∧ (∀ (w4 : Int64) (w6 : Int64) (w8 : Int32), w4.toInt = w64 (a4 + (w64 ((w64 (a6 * (pwF a3 (a8).toNat))) * (pwF (w32 (100 - a3)) ((w32 ((vw h 48 15) - a8))).toNat)))) → w6.toInt = jDiv (w64 (a6 * (w32 ((vw h 48 15) - a8)))) (w32 (a8 + 1)) → w8.toInt = w32 (a8 + 1) → Pt n X zM68 9 [some (.ref 48), some (.int x1), some (.int x2), some (.int x3), some (.long w4), none, some (.long w6), none, some (.int w8)] [] h (qJ P))))))))) : Pt (n + 1) X zM68 9 [some (.ref 48), some (.int x1), some (.int x2), some (.int x3), some (.long x4), none, some (.long x6), none, some (.int x8)] [] h (qJ P) := by
  refine pt_1 (fun n d => r_iload gx68_9 rfl) ?_
  refine pt_d (pt_1 (fun n d => r_aloadn gx68_11 rfl) ?_)
  refine pt_d (pt_getI (B := 15) gx68_12 S (fun v1 h1 => ?_))
  refine pt_d (pt_icmp_gt gx68_15 z8 h1 (fun e2 => ?_) (fun e2 => ?_))
  · have H := H.1 e2
    refine pt_d (pt_1 (fun n d => r_lload gx68_84 rfl) ?_)
    exact pt_d (pt_lret gx68_86 ⟨_, rfl, by rw [z4]; exact H⟩)
  · have H := H.2 e2
    refine pt_d (pt_1 (fun n d => r_iload gx68_18 rfl) ?_)
    refine pt_d (pt_1 (fun n d => r_iloadn gx68_20 rfl) ?_)
    refine pt_d (pt_1 (fun n d => r_iloadn gx68_21 rfl) ?_)
    refine pt_d (pt_stat (as := [.int x8, .int x1, .int x2]) (r := []) gx68_22 rfl (show zmt[137]? = some zM137 from rfl) rfl rfl rfl rfl (c_137 S z8 z1 z2) (kqP (fun v3 h3 => ?_)))
    show Pt _ _ _ 25 _ [.int v3] _ _
    refine pt_d (pt_ifB_eq gx68_25 h3 (fun e4 => ?_) (fun e4 => ?_))
    · have H := H.1 e4
      refine pt_d (pt_1 (fun n d => r_lload gx68_59 rfl) ?_)
      refine pt_d (pt_1 (fun n d => r_aloadn gx68_61 rfl) ?_)
      refine pt_d (pt_getI (B := 15) gx68_62 S (fun v5 h5 => ?_))
      refine pt_d (pt_1 (fun n d => r_iload gx68_65 rfl) ?_)
      refine pt_d (pt_isub gx68_67 h5 z8 (fun v6 h6 => ?_))
      refine pt_d (pt_i2l gx68_68 h6 (fun v7 h7 => ?_))
      refine pt_d (pt_lmul gx68_69 z6 h7 (fun v8 h8 => ?_))
      refine pt_d (pt_1 (fun n d => r_iload gx68_70 rfl) ?_)
      refine pt_d (pt_iconst gx68_72 (fun v9 h9 => ?_))
      refine pt_d (pt_iadd gx68_73 z8 h9 (fun v10 h10 => ?_))
      refine pt_d (pt_i2l gx68_74 h10 (fun v11 h11 => ?_))
      refine pt_d (pt_ldiv gx68_75 h8 h11 (fun v12 h12 => ?_))
      refine pt_d (pt_1 (fun n d => r_lstore (L' := [some (.ref 48), some (.int x1), some (.int x2), some (.int x3), some (.long x4), none, some (.long v12), none, some (.int x8)]) gx68_76 rfl rfl) ?_)
      refine pt_d (pt_iinc (c := 1) gx68_78 rfl z8 (fun v13 h13 => ?_))
      show Pt _ _ _ _ [some (.ref 48), some (.int x1), some (.int x2), some (.int x3), some (.long x4), none, some (.long v12), none, some (.int v13)] [] _ _
      refine pt_d (pt_1 (fun n d => r_goto gx68_81) ?_)
      exact H v12 v13 h12 h13
    · have H := H.2 e4
      refine pt_d (pt_1 (fun n d => r_lload gx68_28 rfl) ?_)
      refine pt_d (pt_1 (fun n d => r_lload gx68_30 rfl) ?_)
      refine pt_d (pt_1 (fun n d => r_iloadn gx68_32 rfl) ?_)
      refine pt_d (pt_i2l gx68_33 z3 (fun v14 h14 => ?_))
      refine pt_d (pt_1 (fun n d => r_iload gx68_34 rfl) ?_)
      obtain ⟨pr15, H⟩ := H
      refine pt_d (pt_stat (as := [.long v14, .int x8]) (r := [.long x6, .long x4]) gx68_36 rfl (show zmt[69]? = some zM69 from rfl) rfl rfl rfl rfl (c_69 S h14 z8 pr15) (kqPJ (fun v15 h15 => ?_)))
      show Pt _ _ _ 39 _ [.long v15, .long x6, .long x4] _ _
      refine pt_d (pt_lmul gx68_39 z6 h15 (fun v16 h16 => ?_))
      refine pt_d (pt_bipush gx68_40 (fun v17 h17 => ?_))
      refine pt_d (pt_1 (fun n d => r_iloadn gx68_42 rfl) ?_)
      refine pt_d (pt_isub gx68_43 h17 z3 (fun v18 h18 => ?_))
      refine pt_d (pt_i2l gx68_44 h18 (fun v19 h19 => ?_))
      refine pt_d (pt_1 (fun n d => r_aloadn gx68_45 rfl) ?_)
      refine pt_d (pt_getI (B := 15) gx68_46 S (fun v20 h20 => ?_))
      refine pt_d (pt_1 (fun n d => r_iload gx68_49 rfl) ?_)
      refine pt_d (pt_isub gx68_51 h20 z8 (fun v21 h21 => ?_))
      obtain ⟨pr22, H⟩ := H
      refine pt_d (pt_stat (as := [.long v19, .int v21]) (r := [.long v16, .long x4]) gx68_52 rfl (show zmt[69]? = some zM69 from rfl) rfl rfl rfl rfl (c_69 S h19 h21 pr22) (kqPJ (fun v22 h22 => ?_)))
      show Pt _ _ _ 55 _ [.long v22, .long v16, .long x4] _ _
      refine pt_d (pt_lmul gx68_55 h16 h22 (fun v23 h23 => ?_))
      refine pt_d (pt_ladd gx68_56 z4 h23 (fun v24 h24 => ?_))
      refine pt_d (pt_1 (fun n d => r_lstore (L' := [some (.ref 48), some (.int x1), some (.int x2), some (.int x3), some (.long v24), none, some (.long x6), none, some (.int x8)]) gx68_57 rfl rfl) ?_)
      refine pt_d (pt_1 (fun n d => r_lload gx68_59 rfl) ?_)
      refine pt_d (pt_1 (fun n d => r_aloadn gx68_61 rfl) ?_)
      refine pt_d (pt_getI (B := 15) gx68_62 S (fun v25 h25 => ?_))
      refine pt_d (pt_1 (fun n d => r_iload gx68_65 rfl) ?_)
      refine pt_d (pt_isub gx68_67 h25 z8 (fun v26 h26 => ?_))
      refine pt_d (pt_i2l gx68_68 h26 (fun v27 h27 => ?_))
      refine pt_d (pt_lmul gx68_69 z6 h27 (fun v28 h28 => ?_))
      refine pt_d (pt_1 (fun n d => r_iload gx68_70 rfl) ?_)
      refine pt_d (pt_iconst gx68_72 (fun v29 h29 => ?_))
      refine pt_d (pt_iadd gx68_73 z8 h29 (fun v30 h30 => ?_))
      refine pt_d (pt_i2l gx68_74 h30 (fun v31 h31 => ?_))
      refine pt_d (pt_ldiv gx68_75 h28 h31 (fun v32 h32 => ?_))
      refine pt_d (pt_1 (fun n d => r_lstore (L' := [some (.ref 48), some (.int x1), some (.int x2), some (.int x3), some (.long v24), none, some (.long v32), none, some (.int x8)]) gx68_76 rfl rfl) ?_)
      refine pt_d (pt_iinc (c := 1) gx68_78 rfl z8 (fun v33 h33 => ?_))
      show Pt _ _ _ _ [some (.ref 48), some (.int x1), some (.int x2), some (.int x3), some (.long v24), none, some (.long v32), none, some (.int v33)] [] _ _
      refine pt_d (pt_1 (fun n d => r_goto gx68_81) ?_)
      exact H v24 v32 v33 h24 h32 h33
theorem d297_0 {n : Nat} {X : aX} {h : aH} {P : Int → aH → Prop} {x0 x1 x2 x3 : Int32} {a0 a1 a2 a3 : Int} (S : wS h) (z0 : x0.toInt = a0) (z1 : x1.toInt = a1) (z2 : x2.toInt = a2) (z3 : x3.toInt = a3) (H : (∀ (w4 : Int64) (u7_ : Option Value) (u9_ : Option Value), w4.toInt = 0 → Pt n X zM297 6 [some (.int x0), some (.int x1), some (.int x2), some (.int x3), some (.long w4), none, some (.int x1), u7_, none, u9_] [] h (qJ P))) : Pt (n + 1) X zM297 0 [some (.int x0), some (.int x1), some (.int x2), some (.int x3), none, none, none, none, none, none] [] h (qJ P) := by
  refine pt_lconst (c := 0) gx297_0 rfl (fun v1 h1 => ?_)
  refine pt_d (pt_1 (fun n d => r_lstore (L' := [some (.int x0), some (.int x1), some (.int x2), some (.int x3), some (.long v1), none, none, none, none, none]) gx297_1 rfl rfl) ?_)
  refine pt_d (pt_1 (fun n d => r_iloadn gx297_3 rfl) ?_)
  refine pt_d (pt_1 (fun n d => r_istore (L' := [some (.int x0), some (.int x1), some (.int x2), some (.int x3), some (.long v1), none, some (.int x1), none, none, none]) gx297_4 rfl rfl) ?_)
  exact H v1 _ _ h1
theorem d297_6 {n : Nat} {X : aX} {h : aH} {P : Int → aH → Prop} {x0 x1 x2 x3 x6 : Int32} {x4 : Int64} {a0 a1 a2 a3 a6 a4 : Int} {u7 u9 : Option Value} (S : wS h) (z0 : x0.toInt = a0) (z1 : x1.toInt = a1) (z2 : x2.toInt = a2) (z3 : x3.toInt = a3) (z4 : x4.toInt = a4) (z6 : x6.toInt = a6) (H : ((a2 < a6 → P a4 h) ∧ (a6 ≤ a2 → (∀ (w7 : Int64) (w9 : Int32), w7.toInt = 1 → w9.toInt = 1 → Pt n X zM297 18 [some (.int x0), some (.int x1), some (.int x2), some (.int x3), some (.long x4), none, some (.int x6), some (.long w7), none, some (.int w9)] [] h (qJ P))))) : Pt (n + 1) X zM297 6 [some (.int x0), some (.int x1), some (.int x2), some (.int x3), some (.long x4), none, some (.int x6), u7, none, u9] [] h (qJ P) := by
  refine pt_1 (fun n d => r_iload gx297_6 rfl) ?_
  refine pt_d (pt_1 (fun n d => r_iloadn gx297_8 rfl) ?_)
  refine pt_d (pt_icmp_gt gx297_9 z6 z2 (fun e1 => ?_) (fun e1 => ?_))
  · have H := H.1 e1
    refine pt_d (pt_1 (fun n d => r_lload gx297_82 rfl) ?_)
    exact pt_d (pt_lret gx297_84 ⟨_, rfl, by rw [z4]; exact H⟩)
  · have H := H.2 e1
    refine pt_d (pt_lconst (c := 1) gx297_12 rfl (fun v2 h2 => ?_))
    refine pt_d (pt_1 (fun n d => r_lstore (L' := [some (.int x0), some (.int x1), some (.int x2), some (.int x3), some (.long x4), none, some (.int x6), some (.long v2), none, u9]) gx297_13 rfl rfl) ?_)
    refine pt_d (pt_iconst gx297_15 (fun v3 h3 => ?_))
    refine pt_d (pt_1 (fun n d => r_istore (L' := [some (.int x0), some (.int x1), some (.int x2), some (.int x3), some (.long x4), none, some (.int x6), some (.long v2), none, some (.int v3)]) gx297_16 rfl rfl) ?_)
    exact H v2 v3 h2 h3
theorem d297_18 {n : Nat} {X : aX} {h : aH} {P : Int → aH → Prop} {x0 x1 x2 x3 x6 x9 : Int32} {x4 x7 : Int64} {a0 a1 a2 a3 a6 a9 a4 a7 : Int} (S : wS h) (z0 : x0.toInt = a0) (z1 : x1.toInt = a1) (z2 : x2.toInt = a2) (z3 : x3.toInt = a3) (z4 : x4.toInt = a4) (z6 : x6.toInt = a6) (z7 : x7.toInt = a7) (z9 : x9.toInt = a9) (H : ((a6 < a9 → ((a6 ≤ 1000) ∧ ((w32 (a0 - a6) ≤ 1000) ∧ (∀ (w4 : Int64) (w6 : Int32) (u7_ : Option Value) (u9_ : Option Value), w4.toInt = w64 (a4 + (w64 ((w64 (a7 * (pwF a3 (a6).toNat))) * (pwF (w32 (100 - a3)) ((w32 (a0 - a6))).toNat)))) → w6.toInt = w32 (a6 + 1) → Pt n X zM297 6 [some (.int x0), some (.int x1), some (.int x2), some (.int x3), some (.long w4), none, some (.int w6), u7_, none, u9_] [] h (qJ P))))) ∧ (a9 ≤ a6 → (∀ (w7 : Int64) (w9 : Int32), w7.toInt = jDiv (w64 (a7 * (w32 ((w32 (a0 - a6)) + a9)))) a9 → w9.toInt = w32 (a9 + 1) → Pt n X zM297 18 [some (.int x0), some (.int x1), some (.int x2), some (.int x3), some (.long x4), none, some (.int x6), some (.long w7), none, some (.int w9)] [] h (qJ P))))) : Pt (n + 1) X zM297 18 [some (.int x0), some (.int x1), some (.int x2), some (.int x3), some (.long x4), none, some (.int x6), some (.long x7), none, some (.int x9)] [] h (qJ P) := by
  refine pt_1 (fun n d => r_iload gx297_18 rfl) ?_
  refine pt_d (pt_1 (fun n d => r_iload gx297_20 rfl) ?_)
  refine pt_d (pt_icmp_gt gx297_22 z9 z6 (fun e1 => ?_) (fun e1 => ?_))
  · have H := H.1 e1
    refine pt_d (pt_1 (fun n d => r_lload gx297_48 rfl) ?_)
    refine pt_d (pt_1 (fun n d => r_lload gx297_50 rfl) ?_)
    refine pt_d (pt_1 (fun n d => r_iloadn gx297_52 rfl) ?_)
    refine pt_d (pt_i2l gx297_53 z3 (fun v2 h2 => ?_))
    refine pt_d (pt_1 (fun n d => r_iload gx297_54 rfl) ?_)
    obtain ⟨pr3, H⟩ := H
    refine pt_d (pt_stat (as := [.long v2, .int x6]) (r := [.long x7, .long x4]) gx297_56 rfl (show zmt[296]? = some zM296 from rfl) rfl rfl rfl rfl (c_296 S h2 z6 pr3) (kqPJ (fun v3 h3 => ?_)))
    show Pt _ _ _ 59 _ [.long v3, .long x7, .long x4] _ _
    refine pt_d (pt_lmul gx297_59 z7 h3 (fun v4 h4 => ?_))
    refine pt_d (pt_bipush gx297_60 (fun v5 h5 => ?_))
    refine pt_d (pt_1 (fun n d => r_iloadn gx297_62 rfl) ?_)
    refine pt_d (pt_isub gx297_63 h5 z3 (fun v6 h6 => ?_))
    refine pt_d (pt_i2l gx297_64 h6 (fun v7 h7 => ?_))
    refine pt_d (pt_1 (fun n d => r_iloadn gx297_65 rfl) ?_)
    refine pt_d (pt_1 (fun n d => r_iload gx297_66 rfl) ?_)
    refine pt_d (pt_isub gx297_68 z0 z6 (fun v8 h8 => ?_))
    obtain ⟨pr9, H⟩ := H
    refine pt_d (pt_stat (as := [.long v7, .int v8]) (r := [.long v4, .long x4]) gx297_69 rfl (show zmt[296]? = some zM296 from rfl) rfl rfl rfl rfl (c_296 S h7 h8 pr9) (kqPJ (fun v9 h9 => ?_)))
    show Pt _ _ _ 72 _ [.long v9, .long v4, .long x4] _ _
    refine pt_d (pt_lmul gx297_72 h4 h9 (fun v10 h10 => ?_))
    refine pt_d (pt_ladd gx297_73 z4 h10 (fun v11 h11 => ?_))
    refine pt_d (pt_1 (fun n d => r_lstore (L' := [some (.int x0), some (.int x1), some (.int x2), some (.int x3), some (.long v11), none, some (.int x6), some (.long x7), none, some (.int x9)]) gx297_74 rfl rfl) ?_)
    refine pt_d (pt_iinc (c := 1) gx297_76 rfl z6 (fun v12 h12 => ?_))
    show Pt _ _ _ _ [some (.int x0), some (.int x1), some (.int x2), some (.int x3), some (.long v11), none, some (.int v12), some (.long x7), none, some (.int x9)] [] _ _
    refine pt_d (pt_1 (fun n d => r_goto gx297_79) ?_)
    exact H v11 v12 _ _ h11 h12
  · have H := H.2 e1
    refine pt_d (pt_1 (fun n d => r_lload gx297_25 rfl) ?_)
    refine pt_d (pt_1 (fun n d => r_iloadn gx297_27 rfl) ?_)
    refine pt_d (pt_1 (fun n d => r_iload gx297_28 rfl) ?_)
    refine pt_d (pt_isub gx297_30 z0 z6 (fun v13 h13 => ?_))
    refine pt_d (pt_1 (fun n d => r_iload gx297_31 rfl) ?_)
    refine pt_d (pt_iadd gx297_33 h13 z9 (fun v14 h14 => ?_))
    refine pt_d (pt_i2l gx297_34 h14 (fun v15 h15 => ?_))
    refine pt_d (pt_lmul gx297_35 z7 h15 (fun v16 h16 => ?_))
    refine pt_d (pt_1 (fun n d => r_iload gx297_36 rfl) ?_)
    refine pt_d (pt_i2l gx297_38 z9 (fun v17 h17 => ?_))
    refine pt_d (pt_ldiv gx297_39 h16 h17 (fun v18 h18 => ?_))
    refine pt_d (pt_1 (fun n d => r_lstore (L' := [some (.int x0), some (.int x1), some (.int x2), some (.int x3), some (.long x4), none, some (.int x6), some (.long v18), none, some (.int x9)]) gx297_40 rfl rfl) ?_)
    refine pt_d (pt_iinc (c := 1) gx297_42 rfl z9 (fun v19 h19 => ?_))
    show Pt _ _ _ _ [some (.int x0), some (.int x1), some (.int x2), some (.int x3), some (.long x4), none, some (.int x6), some (.long v18), none, some (.int v19)] [] _ _
    refine pt_d (pt_1 (fun n d => r_goto gx297_45) ?_)
    exact H v18 v19 h18 h19
theorem l_68 {X : aX} {h : aH} {f t p : Int} (S : wS h) (hn : 0 ≤ vw h 48 15 ∧ vw h 48 15 ≤ 8) : ∀ (n : Nat) (x1 x2 x3 x8 : Int32) (x4 x6 : Int64) (k : Nat), x1.toInt = f → x2.toInt = t → x3.toInt = p → x4.toInt = gSm (tCh (cWy (vw h 48 15)) (vw h 48 15) p) f t k → x6.toInt = cWy (vw h 48 15) k → x8.toInt = (k : Int) → (k : Int) ≤ vw h 48 15 + 1 → Pt n X zM68 9 [some (.ref 48), some (.int x1), some (.int x2), some (.int x3), some (.long x4), none, some (.long x6), none, some (.int x8)] [] h (qJ (fun y h' => h' = h ∧ y = gSm (tCh (cWy (vw h 48 15)) (vw h 48 15) p) f t (vw h 48 15 + 1).toNat)) := by
  intro n
  induction n with
  | zero => intros; exact pt_z
  | succ n ih =>
    intro x1 x2 x3 x8 x4 x6 k h1 h2 h3 h4 h6 h8 hk
    have e : gSm (tCh (cWy (vw h 48 15)) (vw h 48 15) p) f t (k + 1) = if f ≤ (k : Int) ∧ (k : Int) ≤ t then w64 (gSm (tCh (cWy (vw h 48 15)) (vw h 48 15) p) f t k + tCh (cWy (vw h 48 15)) (vw h 48 15) p k) else gSm (tCh (cWy (vw h 48 15)) (vw h 48 15) p) f t k := rfl
    have wk : (k : Int) ≤ 8 → w32 ((k : Int) + 1) = (k : Int) + 1 := fun _ => w32_id (by omega) (by omega)
    refine d68_9 S h1 h2 h3 h4 h6 h8 ⟨fun z => ⟨rfl, ?_⟩, fun z => ⟨fun z2 w6 w8 g6 g8 => ?_, fun z2 => ⟨(by show (k : Int) ≤ 1000; omega), (by show w32 (vw h 48 15 - (k : Int)) ≤ 1000; rw [w32_id (by omega) (by omega)]; omega), fun w4 w6 w8 g4 g6 g8 => ?_⟩⟩⟩
    · rw [show (vw h 48 15 + 1).toNat = k by omega]
    · replace g8 := w_1 g8 (by omega) (by omega)
      refine ih x1 x2 x3 w8 x4 w6 (k + 1) h1 h2 h3 ?_ g6 (by omega) (by omega)
      rw [e, if_neg z2]
      exact h4
    · replace g8 := w_1 g8 (by omega) (by omega)
      refine ih x1 x2 x3 w8 w4 w6 (k + 1) h1 h2 h3 ?_ g6 (by omega) (by omega)
      rw [e, if_pos z2, g4]
      unfold tCh
      rw [Int.toNat_natCast]
theorem c_68 {n : Nat} {X : aX} {h : aH} {x1 x2 x3 : Int32} {a1 a2 a3 : Int} (S : wS h) (z1 : x1.toInt = a1) (z2 : x2.toInt = a2) (z3 : x3.toInt = a3) (hn : 0 ≤ vw h 48 15 ∧ vw h 48 15 ≤ 8) : Pt n X zM68 0 [some (.ref 48), some (.int x1), some (.int x2), some (.int x3), none, none, none, none, none] [] h (qJ (fun y h' => h' = h ∧ y = gSm (tCh (cWy (vw h 48 15)) (vw h 48 15) a3) a1 a2 (vw h 48 15 + 1).toNat)) :=
  pt_d (d68_0 S z1 z2 z3 (fun w4 w6 w8 g4 g6 g8 => l_68 S hn n x1 x2 x3 w8 w4 w6 0 z1 z2 z3 g4 g6 g8 (by omega)))

theorem l_297 {X : aX} {h : aH} {N a b p : Int} (S : wS h) (hN : 0 ≤ N ∧ N ≤ 8) (ha : 0 ≤ a) (hb : b ≤ N) : ∀ n : Nat, (∀ (x0 x1 x2 x3 x6 : Int32) (x4 : Int64) (u7 u9 : Option Value) (k : Nat), x0.toInt = N → x1.toInt = a → x2.toInt = b → x3.toInt = p → x4.toInt = gSm (tCh (mWy N) N p) a b k → x6.toInt = (k : Int) → a ≤ (k : Int) → (k : Int) ≤ b + 1 → Pt n X zM297 6 [some (.int x0), some (.int x1), some (.int x2), some (.int x3), some (.long x4), none, some (.int x6), u7, none, u9] [] h (qJ (fun y h' => h' = h ∧ y = gSm (tCh (mWy N) N p) a b (b + 1).toNat))) ∧
    (∀ (x0 x1 x2 x3 x6 x9 : Int32) (x4 x7 : Int64) (k j : Nat), x0.toInt = N → x1.toInt = a → x2.toInt = b → x3.toInt = p → x4.toInt = gSm (tCh (mWy N) N p) a b k → x6.toInt = (k : Int) → a ≤ (k : Int) → (k : Int) ≤ b → x7.toInt = mWi (w32 (N - (k : Nat))) j → x9.toInt = (j : Int) + 1 → j ≤ k → Pt n X zM297 18 [some (.int x0), some (.int x1), some (.int x2), some (.int x3), some (.long x4), none, some (.int x6), some (.long x7), none, some (.int x9)] [] h (qJ (fun y h' => h' = h ∧ y = gSm (tCh (mWy N) N p) a b (b + 1).toNat))) := by
  intro n
  induction n with
  | zero => exact ⟨by intros; exact pt_z, by intros; exact pt_z⟩
  | succ n ih =>
    refine ⟨fun x0 x1 x2 x3 x6 x4 u7 u9 k h0 h1 h2 h3 h4 h6 ka kb => ?_, fun x0 x1 x2 x3 x6 x9 x4 x7 k j h0 h1 h2 h3 h4 h6 ka kb h7 h9 hj => ?_⟩
    · refine d297_6 S h0 h1 h2 h3 h4 h6 ⟨fun e => ⟨rfl, ?_⟩, fun e w7 w9 g7 g9 => ?_⟩
      · rw [show (b + 1).toNat = k by omega]
      · exact ih.2 x0 x1 x2 x3 x6 w9 x4 w7 k 0 h0 h1 h2 h3 h4 h6 ka e g7 g9 (Nat.zero_le _)
    · have e : gSm (tCh (mWy N) N p) a b (k + 1) = if a ≤ (k : Int) ∧ (k : Int) ≤ b then w64 (gSm (tCh (mWy N) N p) a b k + tCh (mWy N) N p k) else gSm (tCh (mWy N) N p) a b k := rfl
      refine d297_18 S h0 h1 h2 h3 h4 h6 h7 h9 ⟨fun z => ⟨(by show (k : Int) ≤ 1000; omega), (by show w32 (N - (k : Int)) ≤ 1000; rw [w32_id (by omega) (by omega)]; omega), fun w4 w6 u7 u9 g4 g6 => ?_⟩, fun z w7 w9 g7 g9 => ?_⟩
      · replace g6 := w_1 g6 (by omega) (by omega)
        refine ih.1 x0 x1 x2 x3 w6 w4 u7 u9 (k + 1) h0 h1 h2 h3 ?_ (by omega) (by omega) (by omega)
        have ej : j = k := by omega
        rw [e, if_pos ⟨ka, kb⟩, g4, ej]
        unfold tCh mWy
        rw [Int.toNat_natCast]
      · replace g9 := w_1 g9 (by omega) (by omega)
        exact ih.2 x0 x1 x2 x3 x6 w9 x4 w7 k (j + 1) h0 h1 h2 h3 h4 h6 ka kb g7 (by omega) (by omega)
theorem c_297 {n : Nat} {X : aX} {h : aH} {x0 x1 x2 x3 : Int32} {a0 a1 a2 a3 : Int} (S : wS h) (z0 : x0.toInt = a0) (z1 : x1.toInt = a1) (z2 : x2.toInt = a2) (z3 : x3.toInt = a3) (hp : (0 ≤ a0 ∧ a0 ≤ 8) ∧ 0 ≤ a1 ∧ a1 ≤ a2 + 1 ∧ a2 ≤ a0) : Pt n X zM297 0 [some (.int x0), some (.int x1), some (.int x2), some (.int x3), none, none, none, none, none, none] [] h (qJ (fun y h' => h' = h ∧ y = gSm (tCh (mWy a0) a0 a3) a1 a2 (a2 + 1).toNat)) :=
  pt_d (d297_0 S z0 z1 z2 z3 (fun w4 u7 u9 g4 => (l_297 S hp.1 hp.2.1 hp.2.2.2 n).1 x0 x1 x2 x3 x1 w4 u7 u9 a1.toNat z0 z1 z2 z3 (by rw [g4, gSm_low _ (by omega)]) (by omega) (by omega) (by omega)))
end
section
-- ===== the rate of errors =====
theorem d67_0 {n : Nat} {X : aX} {h : aH} {P : Int → aH → Prop} {x1 x2 : Int32} {a1 a2 : Int} (S : wS h) (z1 : x1.toInt = a1) (z2 : x2.toInt = a2) (H : ((vw h 48 15 ≤ 1000) ∧ ((0 ≤ vw h 48 15 ∧ vw h 48 15 ≤ 8) ∧ ((w64 (a2 * (pwF 100 ((vw h 48 15)).toNat)) ≤ w64 (100 * (gSm (tCh (cWy ((vw h) 48 15)) ((vw h) 48 15) a1) (vw h 48 16) (vw h 48 15) ((vw h) 48 15 + 1).toNat)) → ((0 ≤ vw h 48 15 ∧ vw h 48 15 ≤ 8) ∧ ((w64 (a2 * (pwF 100 ((vw h 48 15)).toNat)) ≤ w64 (100 * (gSm (tCh (cWy ((vw h) 48 15)) ((vw h) 48 15) a1) 0 (vw h 48 16) ((vw h) 48 15 + 1).toNat)) → P 0 h) ∧ (w64 (100 * (gSm (tCh (cWy ((vw h) 48 15)) ((vw h) 48 15) a1) 0 (vw h 48 16) ((vw h) 48 15 + 1).toNat)) < w64 (a2 * (pwF 100 ((vw h 48 15)).toNat)) → P 2 h)))) ∧ (w64 (100 * (gSm (tCh (cWy ((vw h) 48 15)) ((vw h) 48 15) a1) (vw h 48 16) (vw h 48 15) ((vw h) 48 15 + 1).toNat)) < w64 (a2 * (pwF 100 ((vw h 48 15)).toNat)) → P 1 h))))) : Pt (n + 1) X zM67 0 [some (.ref 48), some (.int x1), some (.int x2), none, none] [] h (qI P) := by
  refine pt_1 (fun n d => r_iloadn gx67_0 rfl) ?_
  refine pt_d (pt_i2l gx67_1 z2 (fun v1 h1 => ?_))
  refine pt_d (pt_ldc2_w (c := 100) gx67_2 rfl (fun v2 h2 => ?_))
  refine pt_d (pt_1 (fun n d => r_aloadn gx67_5 rfl) ?_)
  refine pt_d (pt_getI (B := 15) gx67_6 S (fun v3 h3 => ?_))
  obtain ⟨pr4, H⟩ := H
  refine pt_d (pt_stat (as := [.long v2, .int v3]) (r := [.long v1]) gx67_9 rfl (show zmt[69]? = some zM69 from rfl) rfl rfl rfl rfl (c_69 S h2 h3 pr4) (kqPJ (fun v4 h4 => ?_)))
  show Pt _ _ _ 12 _ [.long v4, .long v1] _ _
  refine pt_d (pt_lmul gx67_12 h1 h4 (fun v5 h5 => ?_))
  refine pt_d (pt_1 (fun n d => r_lstoren (L' := [some (.ref 48), some (.int x1), some (.int x2), some (.long v5), none]) gx67_13 rfl rfl) ?_)
  refine pt_d (pt_ldc2_w (c := 100) gx67_14 rfl (fun v6 h6 => ?_))
  refine pt_d (pt_1 (fun n d => r_aloadn gx67_17 rfl) ?_)
  refine pt_d (pt_1 (fun n d => r_aloadn gx67_18 rfl) ?_)
  refine pt_d (pt_getI (B := 16) gx67_19 S (fun v7 h7 => ?_))
  refine pt_d (pt_1 (fun n d => r_aloadn gx67_22 rfl) ?_)
  refine pt_d (pt_getI (B := 15) gx67_23 S (fun v8 h8 => ?_))
  refine pt_d (pt_1 (fun n d => r_iloadn gx67_26 rfl) ?_)
  obtain ⟨pr9, H⟩ := H
  refine pt_d (pt_virt (as := [.int v7, .int v8, .int x1]) (r := [.long v6]) gx67_27 rfl (show zmt[68]? = some zM68 from rfl) rfl rfl rfl rfl (c_68 S h7 h8 z1 pr9) (kqPJ (fun v9 h9 => ?_)))
  show Pt _ _ _ 30 _ [.long v9, .long v6] _ _
  refine pt_d (pt_lmul gx67_30 h6 h9 (fun v10 h10 => ?_))
  refine pt_d (pt_1 (fun n d => r_lloadn gx67_31 rfl) ?_)
  refine pt_d (pt_lcmp_ge gx67_32 gx67_33 h10 h5 (fun e11 => ?_) (fun e11 => ?_))
  · have H := H.1 e11
    refine pt_d (pt_ldc2_w (c := 100) gx67_38 rfl (fun v12 h12 => ?_))
    refine pt_d (pt_1 (fun n d => r_aloadn gx67_41 rfl) ?_)
    refine pt_d (pt_iconst gx67_42 (fun v13 h13 => ?_))
    refine pt_d (pt_1 (fun n d => r_aloadn gx67_43 rfl) ?_)
    refine pt_d (pt_getI (B := 16) gx67_44 S (fun v14 h14 => ?_))
    refine pt_d (pt_1 (fun n d => r_iloadn gx67_47 rfl) ?_)
    obtain ⟨pr15, H⟩ := H
    refine pt_d (pt_virt (as := [.int v13, .int v14, .int x1]) (r := [.long v12]) gx67_48 rfl (show zmt[68]? = some zM68 from rfl) rfl rfl rfl rfl (c_68 S h13 h14 z1 pr15) (kqPJ (fun v15 h15 => ?_)))
    show Pt _ _ _ 51 _ [.long v15, .long v12] _ _
    refine pt_d (pt_lmul gx67_51 h12 h15 (fun v16 h16 => ?_))
    refine pt_d (pt_1 (fun n d => r_lloadn gx67_52 rfl) ?_)
    refine pt_d (pt_lcmp_ge gx67_53 gx67_54 h16 h5 (fun e17 => ?_) (fun e17 => ?_))
    · have H := H.1 e17
      refine pt_d (pt_iconst gx67_61 (fun v18 h18 => ?_))
      exact pt_d (pt_iret gx67_62 ⟨_, rfl, by rw [h18]; exact H⟩)
    · have H := H.2 e17
      refine pt_d (pt_iconst gx67_57 (fun v19 h19 => ?_))
      refine pt_d (pt_1 (fun n d => r_goto gx67_58) ?_)
      exact pt_d (pt_iret gx67_62 ⟨_, rfl, by rw [h19]; exact H⟩)
  · have H := H.2 e11
    refine pt_d (pt_iconst gx67_36 (fun v20 h20 => ?_))
    exact pt_d (pt_iret gx67_37 ⟨_, rfl, by rw [h20]; exact H⟩)
noncomputable def uLk (W : Nat → Int) (n x p w : Int) : Int := if w64 (100 * gSm (tCh W n p) x n (n + 1).toNat) < w64 (w * pwF 100 n.toNat) then 1 else if w64 (100 * gSm (tCh W n p) 0 x (n + 1).toNat) < w64 (w * pwF 100 n.toNat) then 2 else 0
theorem c_67 {n : Nat} {X : aX} {h : aH} {x1 x2 : Int32} {a1 a2 : Int} (S : wS h) (z1 : x1.toInt = a1) (z2 : x2.toInt = a2) (hn : 0 ≤ vw h 48 15 ∧ vw h 48 15 ≤ 8) : Pt n X zM67 0 [some (.ref 48), some (.int x1), some (.int x2), none, none] [] h (qI (fun r h' => h' = h ∧ r = uLk (cWy (vw h 48 15)) (vw h 48 15) (vw h 48 16) a1 a2)) := by
  refine pt_d (d67_0 S z1 z2 ?_)
  have hn' : vw h 48 15 ≤ 1000 := by omega
  refine ⟨hn', hn, fun e => ⟨hn, fun e2 => ⟨rfl, ?_⟩, fun e2 => ⟨rfl, ?_⟩⟩, fun e => ⟨rfl, ?_⟩⟩
  · unfold uLk
    rw [if_neg (by omega), if_neg (by omega)]
  · unfold uLk
    rw [if_neg (by omega), if_pos e2]
  · unfold uLk
    rw [if_pos e]
-- the same numbers, from other ways of reckoning the ways
theorem uLk_e {n x p w : Int} (hn : 0 ≤ n ∧ n ≤ 8) (hx : 0 ≤ x ∧ x ≤ n) : uLk (cWy n) n x p w = if w64 (100 * gSm (tCh (mWy n) n p) x n (n + 1).toNat) < w64 (w * pwF 100 n.toNat) then 1 else if w64 (100 * gSm (tCh (mWy n) n p) 0 x (x + 1).toNat) < w64 (w * pwF 100 n.toNat) then 2 else 0 := by
  obtain ⟨m, rfl⟩ : ∃ m : Nat, n = (m : Int) := ⟨n.toNat, by omega⟩
  have ce : ∀ i, i < ((m : Int) + 1).toNat → tCh (cWy (m : Int)) (m : Int) p i = tCh (mWy (m : Int)) (m : Int) p i := fun i hi => by
    unfold tCh
    rw [ways_e ⟨m, by omega⟩ ⟨i, by omega⟩ (show i ≤ m by omega)]
  have st : gSm (tCh (mWy (m : Int)) (m : Int) p) 0 x ((m : Int) + 1).toNat = gSm (tCh (mWy (m : Int)) (m : Int) p) 0 x (x + 1).toNat := by
    rw [show ((m : Int) + 1).toNat = (x + 1).toNat + (((m : Int) + 1).toNat - (x + 1).toNat) by omega]
    exact gSm_stop (by omega) _
  unfold uLk
  rw [gSm_c _ ce, gSm_c _ ce, st]

-- those controlled, those wrong, the first eight
noncomputable def jX (P E : Int → Prop) : Nat → Int
  | 0 => 0
  | b + 1 => jX P E b + pI ((P (b : Nat) ∧ E (b : Nat)) ∧ nQ P b < 8) 1
theorem jX_s (P E : Int → Prop) (b : Nat) : jX P E (b + 1) = jX P E b + pI ((P (b : Nat) ∧ E (b : Nat)) ∧ nQ P b < 8) 1 := rfl
theorem jX_w {P E : Int → Prop} : ∀ b : Nat, nQ P b ≤ 8 → jX P E b = nQ (fun j => P j ∧ E j) b
  | 0, _ => rfl
  | b + 1, h => by
    by_cases p : P (b : Nat)
    · rw [nQ_t p] at h
      have ih := jX_w (P := P) (E := E) b (by omega)
      by_cases e : E (b : Nat)
      · rw [jX_s, pI_t ⟨⟨p, e⟩, by omega⟩, ih, nQ_t (P := fun j => P j ∧ E j) ⟨p, e⟩]
      · rw [jX_s, pI_f (fun z => e z.1.2), ih, nQ_f (P := fun j => P j ∧ E j) (fun z => e z.2)]
    · rw [nQ_f p, Int.add_zero] at h
      rw [jX_s, pI_f (fun z => p z.1.1), jX_w b h, nQ_f (P := fun j => P j ∧ E j) (fun z => p z.1)]
theorem jX_b {P E : Int → Prop} : ∀ b : Nat, 0 ≤ jX P E b ∧ jX P E b ≤ min 8 (nQ P b)
  | 0 => ⟨Int.le_refl _, by show (0 : Int) ≤ min 8 0; decide⟩
  | b + 1 => by
    have ih := jX_b (P := P) (E := E) b
    have n0 := nQ_b P b
    by_cases p : P (b : Nat)
    · rw [jX_s, nQ_t p]
      by_cases z : (P (b : Nat) ∧ E (b : Nat)) ∧ nQ P b < 8
      · rw [pI_t z]
        omega
      · rw [pI_f z]
        omega
    · rw [jX_s, nQ_f p, pI_f (fun z => p z.1.1)]
      omega
theorem jX_c {P E P' E' : Int → Prop} : ∀ n : Nat, (∀ j : Int, 0 ≤ j → j < (n : Int) → (P j ↔ P' j) ∧ (P j → (E j ↔ E' j))) → jX P E n = jX P' E' n
  | 0, _ => rfl
  | n + 1, h => by
    have hn := h (n : Nat) (by omega) (by omega)
    rw [jX_s, jX_s, jX_c n (fun j a b => h j a (by omega)), nQ_c n (fun j a b => (h j a (by omega)).1)]
    congr 1
    refine pI_c ?_ (fun _ => rfl)
    constructor
    · rintro ⟨⟨a, b⟩, c⟩
      exact ⟨⟨hn.1.mp a, (hn.2 a).mp b⟩, c⟩
    · rintro ⟨⟨a, b⟩, c⟩
      exact ⟨⟨hn.1.mpr a, (hn.2 (hn.1.mpr a)).mpr b⟩, c⟩

theorem d66_0 {n : Nat} {X : aX} {h : aH} {P : aH → Prop} {x1 : Int32} {a1 : Int} (S : wS h) (z1 : x1.toInt = a1) (H : ((p1 h a1) ∧ ∀ (q4 : Nat) (h_4 : aH), (wS h_4 ∧ R1 h a1 (vw h 1 0) q4 h_4) → ∀ h_8 : aH, wS h_8 → vw h_8 = up (up (vw h_4) 48 13 0) 48 14 0 → (∀ (w3 : Int32), w3.toInt = 0 → Pt n X zM66 28 [some (.ref 48), some (.int x1), some (.ref q4), some (.int w3)] [] h_8 (qN P)))) : Pt (n + 1) X zM66 0 [some (.ref 48), some (.int x1), none, none] [] h (qN P) := by
  refine pt_1 (fun n d => r_aloadn gx66_0 rfl) ?_
  refine pt_d (pt_getR gx66_1 S tr_48_2 ?_)
  refine pt_d (pt_1 (fun n d => r_iloadn gx66_4 rfl) ?_)
  refine pt_d (pt_1 (fun n d => r_aloadn gx66_5 rfl) ?_)
  refine pt_d (pt_getR gx66_6 S tr_48_0 ?_)
  refine pt_d (pt_getI (B := 0) gx66_9 S (fun v3 h3 => ?_))
  obtain ⟨pr4, H⟩ := H
  refine pt_d (pt_virt (as := [.int x1, .int v3]) (r := []) gx66_12 rfl (show zmt[1]? = some zM1 from rfl) rfl rfl rfl rfl (c_1 S z1 h3 pr4) (kqR (fun q4 h_4 P4 => ?_)))
  have S4 := P4.1
  have H := H q4 h_4 P4
  show Pt _ _ _ 15 _ [.ref q4] _ _
  refine pt_d (pt_1 (fun n d => r_astoren (L' := [some (.ref 48), some (.int x1), some (.ref q4), none]) gx66_15 rfl rfl) ?_)
  refine pt_d (pt_1 (fun n d => r_aloadn gx66_16 rfl) ?_)
  refine pt_d (pt_iconst gx66_17 (fun v5 h5 => ?_))
  refine pt_d (pt_putI (B := 13) gx66_18 S4 h5 (fun h_6 S6 e6 => ?_))
  refine pt_d (pt_1 (fun n d => r_aloadn gx66_21 rfl) ?_)
  refine pt_d (pt_iconst gx66_22 (fun v7 h7 => ?_))
  refine pt_d (pt_putI (B := 14) gx66_23 S6 h7 (fun h_8 S8 e8 => ?_))
  refine pt_d (pt_iconst gx66_26 (fun v9 h9 => ?_))
  refine pt_d (pt_1 (fun n d => r_istoren (L' := [some (.ref 48), some (.int x1), some (.ref q4), some (.int v9)]) gx66_27 rfl rfl) ?_)
  have H := H h_8 S8 (by rw [e8, e6])
  exact H v9 h9
theorem d66_28 {n : Nat} {X : aX} {h : aH} {P : aH → Prop} {x1 x3 : Int32} {a1 a3 : Int} {q2 : Nat} (S : wS h) (z1 : x1.toInt = a1) (z3 : x3.toInt = a3) (H : ((vw h 1 1 ≤ a3 → ((vw h 48 13 ≠ 0 → P h) ∧ (vw h 48 13 = 0 → ∀ h_9 : aH, wS h_9 → vw h_9 = up (up (vw h) 48 15 0) 48 16 0 → P h_9))) ∧ (a3 < vw h 1 1 → ((¬ (cFarm (vw h) a3) → (∀ (w3 : Int32), w3.toInt = w32 (a3 + 1) → Pt n X zM66 28 [some (.ref 48), some (.int x1), some (.ref q2), some (.int w3)] [] h (qN P))) ∧ ((cFarm (vw h) a3) → ((0 ≤ vw h 16 3 ∧ vw h 16 3 ≤ 200) ∧ ((¬ (∃ c, (0 ≤ c ∧ c < vw h 16 3) ∧ (vw h 27 c = a3 ∧ vw h 29 c = a1)) → (∀ (w3 : Int32), w3.toInt = w32 (a3 + 1) → Pt n X zM66 28 [some (.ref 48), some (.int x1), some (.ref q2), some (.int w3)] [] h (qN P))) ∧ ((∃ c, (0 ≤ c ∧ c < vw h 16 3) ∧ (vw h 27 c = a3 ∧ vw h 29 c = a1)) → ∀ h_21 : aH, wS h_21 → vw h_21 = up (vw h) 48 13 (w32 ((vw h 48 13) + 1)) → ((PR102 (vw h_21) q2) ∧ ((cErr (vw h_21) q2 a3 ≤ 2 → ((8 < vw h_21 48 13 → ∀ h_28 : aH, wS h_28 → vw h_28 = up (vw h_21) 48 14 (w32 ((vw h 48 14) + 0)) → (∀ (w3 : Int32), w3.toInt = w32 (a3 + 1) → Pt n X zM66 28 [some (.ref 48), some (.int x1), some (.ref q2), some (.int w3)] [] h_28 (qN P))) ∧ (vw h_21 48 13 ≤ 8 → ∀ h_36 : aH, wS h_36 → vw h_36 = up (up (up (vw h_21) 48 14 (w32 ((vw h 48 14) + 0))) 48 15 (vw h_21 48 13)) 48 16 (w32 ((vw h 48 14) + 0)) → (∀ (w3 : Int32), w3.toInt = w32 (a3 + 1) → Pt n X zM66 28 [some (.ref 48), some (.int x1), some (.ref q2), some (.int w3)] [] h_36 (qN P))))) ∧ (2 < cErr (vw h_21) q2 a3 → ((8 < vw h_21 48 13 → ∀ h_40 : aH, wS h_40 → vw h_40 = up (vw h_21) 48 14 (w32 ((vw h 48 14) + 1)) → (∀ (w3 : Int32), w3.toInt = w32 (a3 + 1) → Pt n X zM66 28 [some (.ref 48), some (.int x1), some (.ref q2), some (.int w3)] [] h_40 (qN P))) ∧ (vw h_21 48 13 ≤ 8 → ∀ h_48 : aH, wS h_48 → vw h_48 = up (up (up (vw h_21) 48 14 (w32 ((vw h 48 14) + 1))) 48 15 (vw h_21 48 13)) 48 16 (w32 ((vw h 48 14) + 1)) → (∀ (w3 : Int32), w3.toInt = w32 (a3 + 1) → Pt n X zM66 28 [some (.ref 48), some (.int x1), some (.ref q2), some (.int w3)] [] h_48 (qN P))))))))))))))) : Pt (n + 1) X zM66 28 [some (.ref 48), some (.int x1), some (.ref q2), some (.int x3)] [] h (qN P) := by
  refine pt_1 (fun n d => r_iloadn gx66_28 rfl) ?_
  refine pt_d (pt_1 (fun n d => r_aloadn gx66_29 rfl) ?_)
  refine pt_d (pt_getR gx66_30 S tr_48_0 ?_)
  refine pt_d (pt_getI (B := 1) gx66_33 S (fun v2 h2 => ?_))
  refine pt_d (pt_icmp_ge gx66_36 z3 h2 (fun e3 => ?_) (fun e3 => ?_))
  · have H := H.1 e3
    refine pt_d (pt_1 (fun n d => r_aloadn gx66_126 rfl) ?_)
    refine pt_d (pt_getI (B := 13) gx66_127 S (fun v4 h4 => ?_))
    refine pt_d (pt_if_ne gx66_130 h4 (fun e5 => ?_) (fun e5 => ?_))
    · have H := H.1 e5
      exact pt_d (pt_vret gx66_143 ⟨rfl, H⟩)
    · have H := H.2 e5
      refine pt_d (pt_1 (fun n d => r_aloadn gx66_133 rfl) ?_)
      refine pt_d (pt_iconst gx66_134 (fun v6 h6 => ?_))
      refine pt_d (pt_putI (B := 15) gx66_135 S h6 (fun h_7 S7 e7 => ?_))
      refine pt_d (pt_1 (fun n d => r_aloadn gx66_138 rfl) ?_)
      refine pt_d (pt_iconst gx66_139 (fun v8 h8 => ?_))
      refine pt_d (pt_putI (B := 16) gx66_140 S7 h8 (fun h_9 S9 e9 => ?_))
      have H := H h_9 S9 (by rw [e9, e7])
      exact pt_d (pt_vret gx66_143 ⟨rfl, H⟩)
  · have H := H.2 e3
    refine pt_d (pt_1 (fun n d => r_aloadn gx66_39 rfl) ?_)
    refine pt_d (pt_getR gx66_40 S tr_48_0 ?_)
    refine pt_d (pt_1 (fun n d => r_iloadn gx66_43 rfl) ?_)
    refine pt_d (pt_virt (as := [.int x3]) (r := []) gx66_44 rfl (show zmt[75]? = some zM75 from rfl) rfl rfl rfl rfl (c_75 S z3) (kqP (fun v11 h11 => ?_)))
    show Pt _ _ _ 47 _ [.int v11] _ _
    refine pt_d (pt_ifB_eq gx66_47 h11 (fun e12 => ?_) (fun e12 => ?_))
    · have H := H.1 e12
      refine pt_d (pt_iinc (c := 1) gx66_120 rfl z3 (fun v13 h13 => ?_))
      show Pt _ _ _ _ [some (.ref 48), some (.int x1), some (.ref q2), some (.int v13)] [] _ _
      refine pt_d (pt_1 (fun n d => r_goto gx66_123) ?_)
      exact H v13 h13
    · have H := H.2 e12
      refine pt_d (pt_1 (fun n d => r_aloadn gx66_50 rfl) ?_)
      refine pt_d (pt_getR gx66_51 S tr_48_1 ?_)
      refine pt_d (pt_1 (fun n d => r_iloadn gx66_54 rfl) ?_)
      refine pt_d (pt_1 (fun n d => r_iloadn gx66_55 rfl) ?_)
      obtain ⟨pr15, H⟩ := H
      refine pt_d (pt_virt (as := [.int x3, .int x1]) (r := []) gx66_56 rfl (show zmt[36]? = some zM36 from rfl) rfl rfl rfl rfl (c_36 S z3 z1 pr15) (kqP (fun v15 h15 => ?_)))
      show Pt _ _ _ 59 _ [.int v15] _ _
      refine pt_d (pt_ifB_eq gx66_59 h15 (fun e16 => ?_) (fun e16 => ?_))
      · have H := H.1 e16
        refine pt_d (pt_iinc (c := 1) gx66_120 rfl z3 (fun v17 h17 => ?_))
        show Pt _ _ _ _ [some (.ref 48), some (.int x1), some (.ref q2), some (.int v17)] [] _ _
        refine pt_d (pt_1 (fun n d => r_goto gx66_123) ?_)
        exact H v17 h17
      · have H := H.2 e16
        refine pt_d (pt_1 (fun n d => r_aloadn gx66_62 rfl) ?_)
        refine pt_d (pt_1 (fun n d => r_dup gx66_63 rfl) ?_)
        refine pt_d (pt_getI (B := 13) gx66_64 S (fun v18 h18 => ?_))
        refine pt_d (pt_iconst gx66_67 (fun v19 h19 => ?_))
        refine pt_d (pt_iadd gx66_68 h18 h19 (fun v20 h20 => ?_))
        refine pt_d (pt_putI (B := 13) gx66_69 S h20 (fun h_21 S21 e21 => ?_))
        refine pt_d (pt_1 (fun n d => r_aloadn gx66_72 rfl) ?_)
        refine pt_d (pt_1 (fun n d => r_dup gx66_73 rfl) ?_)
        refine pt_d (pt_getI (B := 14) gx66_74 S21 (fun v22 h22 => ?_))
        have h22 : v22.toInt = vw h 48 14 := by rw [h22, e21, up_j (by decide)]
        refine pt_d (pt_1 (fun n d => r_aloadn gx66_77 rfl) ?_)
        refine pt_d (pt_1 (fun n d => r_iloadn gx66_78 rfl) ?_)
        have H := H h_21 S21 (by rw [e21])
        obtain ⟨pr23, H⟩ := H
        refine pt_d (pt_virt (as := [.int x3]) (r := [.int v22, .ref 48]) gx66_79 rfl (show zmt[102]? = some zM102 from rfl) rfl rfl rfl rfl (c_102 S21 z3 pr23) (kqP (fun v23 h23 => ?_)))
        show Pt _ _ _ 82 _ [.int v23, .int v22, .ref 48] _ _
        refine pt_d (pt_iconst gx66_82 (fun v24 h24 => ?_))
        refine pt_d (pt_icmp_le gx66_83 h23 h24 (fun e25 => ?_) (fun e25 => ?_))
        · have H := H.1 e25
          refine pt_d (pt_iconst gx66_90 (fun v26 h26 => ?_))
          refine pt_d (pt_iadd gx66_91 h22 h26 (fun v27 h27 => ?_))
          refine pt_d (pt_putI (B := 14) gx66_92 S21 h27 (fun h_28 S28 e28 => ?_))
          refine pt_d (pt_1 (fun n d => r_aloadn gx66_95 rfl) ?_)
          refine pt_d (pt_getI (B := 13) gx66_96 S28 (fun v29 h29 => ?_))
          have h29 : v29.toInt = vw h_21 48 13 := by rw [h29, e28, up_j (by decide)]
          refine pt_d (pt_bipush gx66_99 (fun v30 h30 => ?_))
          refine pt_d (pt_icmp_gt gx66_101 h29 h30 (fun e31 => ?_) (fun e31 => ?_))
          · have H := H.1 e31
            refine pt_d (pt_iinc (c := 1) gx66_120 rfl z3 (fun v32 h32 => ?_))
            show Pt _ _ _ _ [some (.ref 48), some (.int x1), some (.ref q2), some (.int v32)] [] _ _
            refine pt_d (pt_1 (fun n d => r_goto gx66_123) ?_)
            have H := H h_28 S28 (by rw [e28])
            exact H v32 h32
          · have H := H.2 e31
            refine pt_d (pt_1 (fun n d => r_aloadn gx66_104 rfl) ?_)
            refine pt_d (pt_1 (fun n d => r_aloadn gx66_105 rfl) ?_)
            refine pt_d (pt_getI (B := 13) gx66_106 S28 (fun v33 h33 => ?_))
            have h33 : v33.toInt = vw h_21 48 13 := by rw [h33, e28, up_j (by decide)]
            refine pt_d (pt_putI (B := 15) gx66_109 S28 h33 (fun h_34 S34 e34 => ?_))
            refine pt_d (pt_1 (fun n d => r_aloadn gx66_112 rfl) ?_)
            refine pt_d (pt_1 (fun n d => r_aloadn gx66_113 rfl) ?_)
            refine pt_d (pt_getI (B := 14) gx66_114 S34 (fun v35 h35 => ?_))
            have h35 : v35.toInt = w32 ((vw h 48 14) + 0) := by rw [h35, e34, up_j (by decide), e28, up_s]
            refine pt_d (pt_putI (B := 16) gx66_117 S34 h35 (fun h_36 S36 e36 => ?_))
            refine pt_d (pt_iinc (c := 1) gx66_120 rfl z3 (fun v37 h37 => ?_))
            show Pt _ _ _ _ [some (.ref 48), some (.int x1), some (.ref q2), some (.int v37)] [] _ _
            refine pt_d (pt_1 (fun n d => r_goto gx66_123) ?_)
            have H := H h_36 S36 (by rw [e36, e34, e28])
            exact H v37 h37
        · have H := H.2 e25
          refine pt_d (pt_iconst gx66_86 (fun v38 h38 => ?_))
          refine pt_d (pt_1 (fun n d => r_goto gx66_87) ?_)
          refine pt_d (pt_iadd gx66_91 h22 h38 (fun v39 h39 => ?_))
          refine pt_d (pt_putI (B := 14) gx66_92 S21 h39 (fun h_40 S40 e40 => ?_))
          refine pt_d (pt_1 (fun n d => r_aloadn gx66_95 rfl) ?_)
          refine pt_d (pt_getI (B := 13) gx66_96 S40 (fun v41 h41 => ?_))
          have h41 : v41.toInt = vw h_21 48 13 := by rw [h41, e40, up_j (by decide)]
          refine pt_d (pt_bipush gx66_99 (fun v42 h42 => ?_))
          refine pt_d (pt_icmp_gt gx66_101 h41 h42 (fun e43 => ?_) (fun e43 => ?_))
          · have H := H.1 e43
            refine pt_d (pt_iinc (c := 1) gx66_120 rfl z3 (fun v44 h44 => ?_))
            show Pt _ _ _ _ [some (.ref 48), some (.int x1), some (.ref q2), some (.int v44)] [] _ _
            refine pt_d (pt_1 (fun n d => r_goto gx66_123) ?_)
            have H := H h_40 S40 (by rw [e40])
            exact H v44 h44
          · have H := H.2 e43
            refine pt_d (pt_1 (fun n d => r_aloadn gx66_104 rfl) ?_)
            refine pt_d (pt_1 (fun n d => r_aloadn gx66_105 rfl) ?_)
            refine pt_d (pt_getI (B := 13) gx66_106 S40 (fun v45 h45 => ?_))
            have h45 : v45.toInt = vw h_21 48 13 := by rw [h45, e40, up_j (by decide)]
            refine pt_d (pt_putI (B := 15) gx66_109 S40 h45 (fun h_46 S46 e46 => ?_))
            refine pt_d (pt_1 (fun n d => r_aloadn gx66_112 rfl) ?_)
            refine pt_d (pt_1 (fun n d => r_aloadn gx66_113 rfl) ?_)
            refine pt_d (pt_getI (B := 14) gx66_114 S46 (fun v47 h47 => ?_))
            have h47 : v47.toInt = w32 ((vw h 48 14) + 1) := by rw [h47, e46, up_j (by decide), e40, up_s]
            refine pt_d (pt_putI (B := 16) gx66_117 S46 h47 (fun h_48 S48 e48 => ?_))
            refine pt_d (pt_iinc (c := 1) gx66_120 rfl z3 (fun v49 h49 => ?_))
            show Pt _ _ _ _ [some (.ref 48), some (.int x1), some (.ref q2), some (.int v49)] [] _ _
            refine pt_d (pt_1 (fun n d => r_goto gx66_123) ?_)
            have H := H h_48 S48 (by rw [e48, e46, e40])
            exact H v49 h49
end
section
-- ===== the rate of errors =====
def P66 (V : vS) (y b : Int) : Prop := cFarm V b ∧ ∃ c, (0 ≤ c ∧ c < V 16 3) ∧ (V 27 c = b ∧ V 29 c = y)
def E66 (V : vS) (q : Nat) (b : Int) : Prop := 2 < cErr V q b
def F66 (V : vS) (q : Nat) (y : Int) (k : Nat) (W : vS) : Prop := ((∀ (c : Nat) j, c ≠ 48 → W c j = V c j) ∧ ∀ j, j ≠ 13 → j ≠ 14 → j ≠ 15 → j ≠ 16 → W 48 j = V 48 j) ∧ W 48 13 = nQ (P66 V y) k ∧ W 48 14 = nQ (fun b => P66 V y b ∧ E66 V q b) k ∧ (nQ (P66 V y) k = 0 ∨ W 48 15 = min 8 (nQ (P66 V y) k) ∧ W 48 16 = jX (P66 V y) (E66 V q) k)
def J66 (V : vS) (q : Nat) (y : Int) (W : vS) : Prop := ((∀ (c : Nat) j, c ≠ 48 → W c j = V c j) ∧ ∀ j, j ≠ 13 → j ≠ 14 → j ≠ 15 → j ≠ 16 → W 48 j = V 48 j) ∧ W 48 13 = nQ (P66 V y) (V 1 1).toNat ∧ W 48 14 = nQ (fun b => P66 V y b ∧ E66 V q b) (V 1 1).toNat ∧ W 48 15 = min 8 (nQ (P66 V y) (V 1 1).toNat) ∧ W 48 16 = jX (P66 V y) (E66 V q) (V 1 1).toNat
theorem F66_n {V : vS} {q : Nat} {y : Int} {k : Nat} {W G W' : vS} (F : F66 V q y k W) (p : P66 V y (k : Nat)) (hk : k ≤ 150) (eg : G = up W 48 13 (w32 (W 48 13 + 1))) (a14 : W' 48 14 = w32 (W 48 14 + bI (E66 V q (k : Nat)))) (fr : ∀ (c : Nat) j, (c = 48 → j ≠ 14 ∧ j ≠ 15 ∧ j ≠ 16) → W' c j = G c j) (t : (8 < G 48 13 ∧ W' 48 15 = G 48 15 ∧ W' 48 16 = G 48 16) ∨ (G 48 13 ≤ 8 ∧ W' 48 15 = G 48 13 ∧ W' 48 16 = W' 48 14)) : F66 V q y (k + 1) W' := by
  obtain ⟨⟨f1, f2⟩, f13, f14, f5⟩ := F
  have b1 := nQ_b (P66 V y) k
  have b2 := nQ_b (fun b => P66 V y b ∧ E66 V q b) k
  have g13 : G 48 13 = nQ (P66 V y) (k + 1) := by rw [eg, up_s, f13, w32_id (by omega) (by omega), nQ_t p]
  have g15 : G 48 15 = W 48 15 := by rw [eg, up_j (by decide)]
  have g16 : G 48 16 = W 48 16 := by rw [eg, up_j (by decide)]
  have w14 : W' 48 14 = nQ (fun b => P66 V y b ∧ E66 V q b) (k + 1) := by
    by_cases e : E66 V q (k : Nat)
    · rw [a14, bI_t e, f14, w32_id (by omega) (by omega), nQ_t (P := fun b => P66 V y b ∧ E66 V q b) ⟨p, e⟩]
    · rw [a14, bI_f e, f14, w32_id (by omega) (by omega), nQ_f (P := fun b => P66 V y b ∧ E66 V q b) (fun z => e z.2)]
  refine ⟨⟨fun c j n => ?_, fun j n1 n2 n3 n4 => ?_⟩, ?_, w14, Or.inr ?_⟩
  · rw [fr c j (fun z => absurd z n), eg, up_c n]
    exact f1 c j n
  · rw [fr 48 j (fun _ => ⟨n2, n3, n4⟩), eg, up_j n1]
    exact f2 j n1 n2 n3 n4
  · rw [fr 48 13 (fun _ => ⟨by decide, by decide, by decide⟩), g13]
  · have pk := nQ_t p
    rcases t with ⟨gt, t5, t6⟩ | ⟨le, t5, t6⟩
    · rw [g13] at gt
      rcases f5 with z | ⟨z5, z6⟩
      · omega
      · rw [t5, g15, z5, t6, g16, z6, jX_s, pI_f (fun z => by omega)]
        exact ⟨by omega, by omega⟩
    · rw [g13] at le t5
      rw [t5, t6, w14, jX_w _ le]
      exact ⟨by omega, rfl⟩
theorem l_66 {X : aX} {V : vS} {q : Nat} {y : Int} (hn : 0 ≤ V 1 1 ∧ V 1 1 ≤ 150) (h16 : 0 ≤ V 16 3 ∧ V 16 3 ≤ 200) (hq : 146 ≤ q) (L : PR102 V q) : ∀ (n : Nat) (h : aH) (x1 x3 : Int32) (k : Nat), wS h → x1.toInt = y → x3.toInt = (k : Int) → (k : Int) ≤ V 1 1 → F66 V q y k (vw h) → Pt n X zM66 28 [some (.ref 48), some (.int x1), some (.ref q), some (.int x3)] [] h (qN (fun h' => wS h' ∧ J66 V q y (vw h'))) := by
  intro n
  induction n with
  | zero => intros; exact pt_z
  | succ n ih =>
    intro h x1 x3 k S h1 h3 hk F
    have F0 := F
    obtain ⟨⟨f1, f2⟩, f13, f14, f5⟩ := F0
    have cf : cFarm (vw h) (k : Nat) ↔ cFarm V (k : Nat) := by
      unfold cFarm cBody
      rw [f1 1 1 (by decide), f1 2 _ (by decide)]
    have ex : (∃ c, (0 ≤ c ∧ c < vw h 16 3) ∧ (vw h 27 c = (k : Nat) ∧ vw h 29 c = y)) ↔ ∃ c, (0 ≤ c ∧ c < V 16 3) ∧ (V 27 c = (k : Nat) ∧ V 29 c = y) := by
      simp only [f1 16 _ (by decide), f1 27 _ (by decide), f1 29 _ (by decide)]
    have n1 := f1 1 1 (by decide)
    have skip : (k : Int) < vw h 1 1 → ¬ P66 V y (k : Nat) → ∀ w3 : Int32, w3.toInt = w32 ((k : Int) + 1) → Pt n X zM66 28 [some (.ref 48), some (.int x1), some (.ref q), some (.int w3)] [] h (qN (fun h' => wS h' ∧ J66 V q y (vw h'))) := by
      intro e z w3 g
      replace g := w_1 g (by omega) (by omega)
      refine ih h x1 w3 (k + 1) S h1 (by omega) (by omega) ⟨⟨f1, f2⟩, ?_, ?_, ?_⟩
      · rw [nQ_f z, Int.add_zero]; exact f13
      · rw [nQ_f (P := fun b => P66 V y b ∧ E66 V q b) (fun w => z w.1), Int.add_zero]; exact f14
      · rw [nQ_f z, Int.add_zero, jX_s, pI_f (fun w => z w.1.1), Int.add_zero]; exact f5
    have go : (k : Int) < vw h 1 1 → P66 V y (k : Nat) → ∀ (g g2 : aH) (w3 : Int32), wS g2 → vw g = up (vw h) 48 13 (w32 (vw h 48 13 + 1)) → vw g2 48 14 = w32 (vw h 48 14 + bI (E66 V q (k : Nat))) → (∀ (c : Nat) j, (c = 48 → j ≠ 14 ∧ j ≠ 15 ∧ j ≠ 16) → vw g2 c j = vw g c j) → ((8 < vw g 48 13 ∧ vw g2 48 15 = vw g 48 15 ∧ vw g2 48 16 = vw g 48 16) ∨ (vw g 48 13 ≤ 8 ∧ vw g2 48 15 = vw g 48 13 ∧ vw g2 48 16 = vw g2 48 14)) → w3.toInt = w32 ((k : Int) + 1) → Pt n X zM66 28 [some (.ref 48), some (.int x1), some (.ref q), some (.int w3)] [] g2 (qN (fun h' => wS h' ∧ J66 V q y (vw h'))) := by
      intro e p g g2 w3 S2 eg a14 fr t g3
      replace g3 := w_1 g3 (by omega) (by omega)
      exact ih g2 x1 w3 (k + 1) S2 h1 (by omega) (by omega) (F66_n F p (by omega) eg a14 fr t)
    have kn : vw h 1 1 ≤ (k : Int) → (V 1 1).toNat = k := fun e => by omega
    refine d66_28 S h1 h3 ⟨fun e => ⟨fun z => ⟨S, ?_⟩, fun z g S2 eg => ⟨S2, ?_⟩⟩, fun e => ⟨fun z w3 g3 => skip e (fun w => z (cf.mpr w.1)) w3 g3, fun z => ⟨by rw [f1 16 3 (by decide)]; exact h16, fun z2 w3 g3 => skip e (fun w => z2 (ex.mpr w.2)) w3 g3, fun z2 g S2 eg => ?_⟩⟩⟩
    · unfold J66
      rw [kn e]
      rcases f5 with f5 | f5
      · rw [f13] at z
        exact absurd f5 z
      · exact ⟨⟨f1, f2⟩, f13, f14, f5⟩
    · unfold J66
      rw [kn e]
      rw [f13] at z
      have jb := jX_b (P := P66 V y) (E := E66 V q) k
      refine ⟨⟨fun c j nc => by rw [eg, up_c nc, up_c nc]; exact f1 c j nc, fun j a b c d => by rw [eg, up_j d, up_j c]; exact f2 j a b c d⟩, by rw [eg, up_j (by decide), up_j (by decide)]; exact f13, by rw [eg, up_j (by decide), up_j (by decide)]; exact f14, ?_, ?_⟩
      · rw [eg, up_j (by decide), up_s, z]
        rfl
      · rw [eg, up_s]
        omega
    · have p : P66 V y (k : Nat) := ⟨cf.mp z, ex.mp z2⟩
      have gc : ∀ (c : Nat) j, c ≠ 48 → vw g c j = V c j := fun c j nc => by rw [eg, up_c nc]; exact f1 c j nc
      have ce : cErr (vw g) q (k : Nat) = cErr V q (k : Nat) := by
        unfold cErr
        rw [gc (q + 5) _ (by omega), gc (q + 6) _ (by omega)]
      refine ⟨⟨by rw [gc q 10 (by omega)]; exact L.1, by rw [gc q 11 (by omega)]; exact L.2⟩, fun le => ?_, fun lt => ?_⟩
      · rw [ce] at le
        have nE : ¬ E66 V q (k : Nat) := fun w => by unfold E66 at w; omega
        refine ⟨fun gt g2 S3 e3 w3 g3 => go e p g g2 w3 S3 eg (by rw [e3, up_s, bI_f nE]) (fun c j nn => by rw [e3]; exact if_neg (fun w => (nn w.1).1 w.2)) (Or.inl ⟨gt, by rw [e3, up_j (by decide)], by rw [e3, up_j (by decide)]⟩) g3, fun gt g2 S3 e3 w3 g3 => go e p g g2 w3 S3 eg (by rw [e3, up_j (by decide), up_j (by decide), up_s, bI_f nE]) (fun c j nn => ?_) (Or.inr ⟨gt, by rw [e3, up_j (by decide), up_s], by rw [e3, up_s, up_j (by decide), up_j (by decide), up_s]⟩) g3⟩
        rw [e3]
        exact (if_neg (fun w => (nn w.1).2.2 w.2)).trans ((if_neg (fun w => (nn w.1).2.1 w.2)).trans (if_neg (fun w => (nn w.1).1 w.2)))
      · rw [ce] at lt
        have yE : E66 V q (k : Nat) := lt
        refine ⟨fun gt g2 S3 e3 w3 g3 => go e p g g2 w3 S3 eg (by rw [e3, up_s, bI_t yE]) (fun c j nn => by rw [e3]; exact if_neg (fun w => (nn w.1).1 w.2)) (Or.inl ⟨gt, by rw [e3, up_j (by decide)], by rw [e3, up_j (by decide)]⟩) g3, fun gt g2 S3 e3 w3 g3 => go e p g g2 w3 S3 eg (by rw [e3, up_j (by decide), up_j (by decide), up_s, bI_t yE]) (fun c j nn => ?_) (Or.inr ⟨gt, by rw [e3, up_j (by decide), up_s], by rw [e3, up_s, up_j (by decide), up_j (by decide), up_s]⟩) g3⟩
        rw [e3]
        exact (if_neg (fun w => (nn w.1).2.2 w.2)).trans ((if_neg (fun w => (nn w.1).2.1 w.2)).trans (if_neg (fun w => (nn w.1).1 w.2)))
theorem p1_any {h : aH} (I : IV h) (y : Int) : p1 h y := ⟨I.1, fun y0 y9 q e => by
  obtain ⟨a, b, c, d, -⟩ := I.2.1 y y0 (by omega) q e.symm
  exact ⟨a, b, c, d⟩⟩
def R66 (h : aH) (y : Int) (h' : aH) : Prop := ∃ q g, R1 h y (vw h 1 0) q g ∧ J66 (vw g) q y (vw h')
theorem c_66 {n : Nat} {X : aX} {h : aH} {x1 : Int32} {a1 : Int} (S : wS h) (z1 : x1.toInt = a1) (I : IV h) : Pt n X zM66 0 [some (.ref 48), some (.int x1), none, none] [] h (qN (fun h' => wS h' ∧ R66 h a1 h')) := by
  refine pt_d (d66_0 S z1 ⟨p1_any I a1, fun q g R g2 S2 e2 w3 g3 => ?_⟩)
  obtain ⟨S1, R⟩ := R
  have hy := R.1.2.2.1
  obtain ⟨sl, l5, B⟩ := R1_k ⟨hy.1, by omega⟩ (p1_any I a1) (by
    by_cases z : vw h 42 a1 = (q : Int)
    · exact Or.inl (hn_IV I q ⟨a1, ⟨hy.1, by omega⟩, z.symm⟩)
    · exact Or.inr z) R
  obtain ⟨-, -, -, -, -, -, s10, s11, -⟩ := sl
  refine pt_q (l_66 (V := vw g) B.1.1 B.2.2.2.2.2.2 R.1.1 ⟨s10, s11⟩ _ g2 x1 w3 0 S2 z1 g3 B.1.1.1 ⟨⟨fun c j nc => by rw [e2, up_c nc, up_c nc], fun j a b _ _ => by rw [e2, up_j b, up_j a]⟩, by rw [e2, up_j (by decide), up_s]; rfl, by rw [e2, up_s]; rfl, Or.inl rfl⟩) ?_
  rintro v h' ⟨ev, S', J⟩
  exact ⟨ev, S', q, g, R, J⟩

theorem d180_0 {n : Nat} {X : aX} {h : aH} {P : Int → aH → Prop} {x1 x2 x3 : Int32} {a1 a2 a3 : Int} (S : wS h) (z1 : x1.toInt = a1) (z2 : x2.toInt = a2) (z3 : x3.toInt = a3) (H : ((¬ (0 ≤ a1 ∧ a1 ≤ 9) → P (-1) h) ∧ ((0 ≤ a1 ∧ a1 ≤ 9) → (((0 ≤ a2 ∧ a2 ≤ 2) → ((a2 ≠ 2 → ((IV h) ∧ ∀ (h_11 : aH), (wS h_11 ∧ R66 h a1 h_11) → ((a2 = 0 → P (vw h_11 48 13) h_11) ∧ (a2 ≠ 0 → ((a2 = 1 → P (vw h_11 48 14) h_11) ∧ (a2 ≠ 1 → ((0 ≤ vw h_11 48 15 ∧ vw h_11 48 15 ≤ 8) ∧ P (uLk (cWy ((vw h_11) 48 15)) ((vw h_11) 48 15) ((vw h_11) 48 16) (iDiv a3 100) (iRem a3 100)) h_11))))))) ∧ (a2 = 2 → ((¬ (1 ≤ (iDiv a3 100) ∧ (iDiv a3 100) ≤ 99) → P (-1) h) ∧ ((1 ≤ (iDiv a3 100) ∧ (iDiv a3 100) ≤ 99) → (((1 ≤ (iRem a3 100) ∧ (iRem a3 100) ≤ 49) → ((IV h) ∧ ∀ (h_38 : aH), (wS h_38 ∧ R66 h a1 h_38) → ((a2 = 0 → P (vw h_38 48 13) h_38) ∧ (a2 ≠ 0 → ((a2 = 1 → P (vw h_38 48 14) h_38) ∧ (a2 ≠ 1 → ((0 ≤ vw h_38 48 15 ∧ vw h_38 48 15 ≤ 8) ∧ P (uLk (cWy ((vw h_38) 48 15)) ((vw h_38) 48 15) ((vw h_38) 48 16) (iDiv a3 100) (iRem a3 100)) h_38))))))) ∧ (¬ (1 ≤ (iRem a3 100) ∧ (iRem a3 100) ≤ 49) → P (-1) h))))))) ∧ (¬ (0 ≤ a2 ∧ a2 ≤ 2) → P (-1) h))))) : Pt (n + 1) X zM180 0 [some (.ref 0), some (.int x1), some (.int x2), some (.int x3)] [] h (qI P) := by
  refine pt_1 (fun n d => r_iloadn gx180_0 rfl) ?_
  refine pt_d (pt_stat (as := [.int x1]) (r := []) gx180_1 rfl (show zmt[139]? = some zM139 from rfl) rfl rfl rfl rfl (c_139 S z1) (kqP (fun v1 h1 => ?_)))
  show Pt _ _ _ 4 _ [.int v1] _ _
  refine pt_d (pt_ifB_eq gx180_4 h1 (fun e2 => ?_) (fun e2 => ?_))
  · have H := H.1 e2
    refine pt_d (pt_iconst gx180_16 (fun v3 h3 => ?_))
    exact pt_d (pt_iret gx180_17 ⟨_, rfl, by rw [h3]; exact H⟩)
  · have H := H.2 e2
    refine pt_d (pt_1 (fun n d => r_iloadn gx180_7 rfl) ?_)
    refine pt_d (pt_iconst gx180_8 (fun v4 h4 => ?_))
    refine pt_d (pt_iconst gx180_9 (fun v5 h5 => ?_))
    refine pt_d (pt_stat (as := [.int x2, .int v4, .int v5]) (r := []) gx180_10 rfl (show zmt[137]? = some zM137 from rfl) rfl rfl rfl rfl (c_137 S z2 h4 h5) (kqP (fun v6 h6 => ?_)))
    show Pt _ _ _ 13 _ [.int v6] _ _
    refine pt_d (pt_ifB_ne gx180_13 h6 (fun e7 => ?_) (fun e7 => ?_))
    · have H := H.1 e7
      refine pt_d (pt_1 (fun n d => r_iloadn gx180_18 rfl) ?_)
      refine pt_d (pt_iconst gx180_19 (fun v8 h8 => ?_))
      refine pt_d (pt_icmp_ne gx180_20 z2 h8 (fun e9 => ?_) (fun e9 => ?_))
      · have H := H.1 e9
        refine pt_d (pt_1 (fun n d => r_aloadn gx180_51 rfl) ?_)
        refine pt_d (pt_getR gx180_52 S tr_0_5 ?_)
        refine pt_d (pt_1 (fun n d => r_iloadn gx180_55 rfl) ?_)
        obtain ⟨pr11, H⟩ := H
        refine pt_d (pt_virt (as := [.int x1]) (r := []) gx180_56 rfl (show zmt[66]? = some zM66 from rfl) rfl rfl rfl rfl (c_66 S z1 pr11) (kqN (fun h_11 P11 => ?_)))
        have S11 := P11.1
        have H := H h_11 P11
        show Pt _ _ _ 59 _ [] _ _
        refine pt_d (pt_1 (fun n d => r_iloadn gx180_59 rfl) ?_)
        refine pt_d (pt_lsw gx180_60 ?_)
        refine pb_c (lo := 0) (p := 88) z2 (fun e12 => ?_) (fun e12 => ?_)
        · have H := H.1 e12
          refine pt_d (pt_1 (fun n d => r_aloadn gx180_88 rfl) ?_)
          refine pt_d (pt_getR gx180_89 S11 tr_0_5 ?_)
          refine pt_d (pt_getI (B := 13) gx180_92 S11 (fun v14 h14 => ?_))
          exact pt_d (pt_iret gx180_95 ⟨_, rfl, by rw [h14]; exact H⟩)
        have H := H.2 e12
        refine pb_c (lo := 1) (p := 96) z2 (fun e15 => ?_) (fun e15 => ?_)
        · have H := H.1 e15
          refine pt_d (pt_1 (fun n d => r_aloadn gx180_96 rfl) ?_)
          refine pt_d (pt_getR gx180_97 S11 tr_0_5 ?_)
          refine pt_d (pt_getI (B := 14) gx180_100 S11 (fun v17 h17 => ?_))
          exact pt_d (pt_iret gx180_103 ⟨_, rfl, by rw [h17]; exact H⟩)
        have H := H.2 e15
        refine pb_0 (p := 104) ?_
        refine pt_d (pt_1 (fun n d => r_aloadn gx180_104 rfl) ?_)
        refine pt_d (pt_getR gx180_105 S11 tr_0_5 ?_)
        refine pt_d (pt_1 (fun n d => r_iloadn gx180_108 rfl) ?_)
        refine pt_d (pt_bipush gx180_109 (fun v19 h19 => ?_))
        refine pt_d (pt_idiv gx180_111 z3 h19 (fun v20 h20 => ?_))
        refine pt_d (pt_1 (fun n d => r_iloadn gx180_112 rfl) ?_)
        refine pt_d (pt_bipush gx180_113 (fun v21 h21 => ?_))
        refine pt_d (pt_irem gx180_115 z3 h21 (fun v22 h22 => ?_))
        obtain ⟨pr23, H⟩ := H
        refine pt_d (pt_virt (as := [.int v20, .int v22]) (r := []) gx180_116 rfl (show zmt[67]? = some zM67 from rfl) rfl rfl rfl rfl (c_67 S11 h20 h22 pr23) (kqP (fun v23 h23 => ?_)))
        show Pt _ _ _ 119 _ [.int v23] _ _
        exact pt_d (pt_iret gx180_119 ⟨_, rfl, by rw [h23]; exact H⟩)
      · have H := H.2 e9
        refine pt_d (pt_1 (fun n d => r_iloadn gx180_23 rfl) ?_)
        refine pt_d (pt_bipush gx180_24 (fun v24 h24 => ?_))
        refine pt_d (pt_idiv gx180_26 z3 h24 (fun v25 h25 => ?_))
        refine pt_d (pt_iconst gx180_27 (fun v26 h26 => ?_))
        refine pt_d (pt_bipush gx180_28 (fun v27 h27 => ?_))
        refine pt_d (pt_stat (as := [.int v25, .int v26, .int v27]) (r := []) gx180_30 rfl (show zmt[137]? = some zM137 from rfl) rfl rfl rfl rfl (c_137 S h25 h26 h27) (kqP (fun v28 h28 => ?_)))
        show Pt _ _ _ 33 _ [.int v28] _ _
        refine pt_d (pt_ifB_eq gx180_33 h28 (fun e29 => ?_) (fun e29 => ?_))
        · have H := H.1 e29
          refine pt_d (pt_iconst gx180_49 (fun v30 h30 => ?_))
          exact pt_d (pt_iret gx180_50 ⟨_, rfl, by rw [h30]; exact H⟩)
        · have H := H.2 e29
          refine pt_d (pt_1 (fun n d => r_iloadn gx180_36 rfl) ?_)
          refine pt_d (pt_bipush gx180_37 (fun v31 h31 => ?_))
          refine pt_d (pt_irem gx180_39 z3 h31 (fun v32 h32 => ?_))
          refine pt_d (pt_iconst gx180_40 (fun v33 h33 => ?_))
          refine pt_d (pt_bipush gx180_41 (fun v34 h34 => ?_))
          refine pt_d (pt_stat (as := [.int v32, .int v33, .int v34]) (r := []) gx180_43 rfl (show zmt[137]? = some zM137 from rfl) rfl rfl rfl rfl (c_137 S h32 h33 h34) (kqP (fun v35 h35 => ?_)))
          show Pt _ _ _ 46 _ [.int v35] _ _
          refine pt_d (pt_ifB_ne gx180_46 h35 (fun e36 => ?_) (fun e36 => ?_))
          · have H := H.1 e36
            refine pt_d (pt_1 (fun n d => r_aloadn gx180_51 rfl) ?_)
            refine pt_d (pt_getR gx180_52 S tr_0_5 ?_)
            refine pt_d (pt_1 (fun n d => r_iloadn gx180_55 rfl) ?_)
            obtain ⟨pr38, H⟩ := H
            refine pt_d (pt_virt (as := [.int x1]) (r := []) gx180_56 rfl (show zmt[66]? = some zM66 from rfl) rfl rfl rfl rfl (c_66 S z1 pr38) (kqN (fun h_38 P38 => ?_)))
            have S38 := P38.1
            have H := H h_38 P38
            show Pt _ _ _ 59 _ [] _ _
            refine pt_d (pt_1 (fun n d => r_iloadn gx180_59 rfl) ?_)
            refine pt_d (pt_lsw gx180_60 ?_)
            refine pb_c (lo := 0) (p := 88) z2 (fun e39 => ?_) (fun e39 => ?_)
            · have H := H.1 e39
              refine pt_d (pt_1 (fun n d => r_aloadn gx180_88 rfl) ?_)
              refine pt_d (pt_getR gx180_89 S38 tr_0_5 ?_)
              refine pt_d (pt_getI (B := 13) gx180_92 S38 (fun v41 h41 => ?_))
              exact pt_d (pt_iret gx180_95 ⟨_, rfl, by rw [h41]; exact H⟩)
            have H := H.2 e39
            refine pb_c (lo := 1) (p := 96) z2 (fun e42 => ?_) (fun e42 => ?_)
            · have H := H.1 e42
              refine pt_d (pt_1 (fun n d => r_aloadn gx180_96 rfl) ?_)
              refine pt_d (pt_getR gx180_97 S38 tr_0_5 ?_)
              refine pt_d (pt_getI (B := 14) gx180_100 S38 (fun v44 h44 => ?_))
              exact pt_d (pt_iret gx180_103 ⟨_, rfl, by rw [h44]; exact H⟩)
            have H := H.2 e42
            refine pb_0 (p := 104) ?_
            refine pt_d (pt_1 (fun n d => r_aloadn gx180_104 rfl) ?_)
            refine pt_d (pt_getR gx180_105 S38 tr_0_5 ?_)
            refine pt_d (pt_1 (fun n d => r_iloadn gx180_108 rfl) ?_)
            refine pt_d (pt_bipush gx180_109 (fun v46 h46 => ?_))
            refine pt_d (pt_idiv gx180_111 z3 h46 (fun v47 h47 => ?_))
            refine pt_d (pt_1 (fun n d => r_iloadn gx180_112 rfl) ?_)
            refine pt_d (pt_bipush gx180_113 (fun v48 h48 => ?_))
            refine pt_d (pt_irem gx180_115 z3 h48 (fun v49 h49 => ?_))
            obtain ⟨pr50, H⟩ := H
            refine pt_d (pt_virt (as := [.int v47, .int v49]) (r := []) gx180_116 rfl (show zmt[67]? = some zM67 from rfl) rfl rfl rfl rfl (c_67 S38 h47 h49 pr50) (kqP (fun v50 h50 => ?_)))
            show Pt _ _ _ 119 _ [.int v50] _ _
            exact pt_d (pt_iret gx180_119 ⟨_, rfl, by rw [h50]; exact H⟩)
          · have H := H.2 e36
            refine pt_d (pt_iconst gx180_49 (fun v51 h51 => ?_))
            exact pt_d (pt_iret gx180_50 ⟨_, rfl, by rw [h51]; exact H⟩)
    · have H := H.2 e7
      refine pt_d (pt_iconst gx180_16 (fun v52 h52 => ?_))
      exact pt_d (pt_iret gx180_17 ⟨_, rfl, by rw [h52]; exact H⟩)
theorem d298_0 {n : Nat} {X : aX} {h : aH} {P : Int → aH → Prop} {x1 x2 x3 : Int32} {a1 a2 a3 : Int} (S : wS h) (z1 : x1.toInt = a1) (z2 : x2.toInt = a2) (z3 : x3.toInt = a3) (H : ((¬ (0 ≤ a1 ∧ a1 ≤ 9) → P (-1) h) ∧ ((0 ≤ a1 ∧ a1 ≤ 9) → ((¬ (0 ≤ a2 ∧ a2 ≤ 2) → P (-1) h) ∧ ((0 ≤ a2 ∧ a2 ≤ 2) → ((a2 ≠ 2 → ((q239 (vw h)) ∧ ∀ (h_12 : aH), (wS h_12 ∧ R239 (vw h) (vw h 72 1) (vw h_12)) → (∀ (w4 : Int32) (w5 : Int32) (w6 : Int32) (w7 : Int32) (w8 : Int32) (u9_ : Option Value), w4.toInt = 0 → w5.toInt = 0 → w6.toInt = 0 → w7.toInt = 0 → w8.toInt = 0 → Pt n X zM298 71 [some (.ref 72), some (.int x1), some (.int x2), some (.int x3), some (.int w4), some (.int w5), some (.int w6), some (.int w7), some (.int w8), u9_] [] h_12 (qI P)))) ∧ (a2 = 2 → ((¬ (100 ≤ a3 ∧ a3 ≤ 9949) → P (-1) h) ∧ ((100 ≤ a3 ∧ a3 ≤ 9949) → (((1 ≤ (iRem a3 100) ∧ (iRem a3 100) ≤ 49) → ((q239 (vw h)) ∧ ∀ (h_30 : aH), (wS h_30 ∧ R239 (vw h) (vw h 72 1) (vw h_30)) → (∀ (w4 : Int32) (w5 : Int32) (w6 : Int32) (w7 : Int32) (w8 : Int32) (u9_ : Option Value), w4.toInt = 0 → w5.toInt = 0 → w6.toInt = 0 → w7.toInt = 0 → w8.toInt = 0 → Pt n X zM298 71 [some (.ref 72), some (.int x1), some (.int x2), some (.int x3), some (.int w4), some (.int w5), some (.int w6), some (.int w7), some (.int w8), u9_] [] h_30 (qI P)))) ∧ (¬ (1 ≤ (iRem a3 100) ∧ (iRem a3 100) ≤ 49) → P (-1) h))))))))))) : Pt (n + 1) X zM298 0 [some (.ref 72), some (.int x1), some (.int x2), some (.int x3), none, none, none, none, none, none] [] h (qI P) := by
  refine pt_1 (fun n d => r_iloadn gx298_0 rfl) ?_
  refine pt_d (pt_stat (as := [.int x1]) (r := []) gx298_1 rfl (show zmt[198]? = some zM198 from rfl) rfl rfl rfl rfl (c_198 S z1) (kqP (fun v1 h1 => ?_)))
  show Pt _ _ _ 4 _ [.int v1] _ _
  refine pt_d (pt_ifB_eq gx298_4 h1 (fun e2 => ?_) (fun e2 => ?_))
  · have H := H.1 e2
    refine pt_d (pt_iconst gx298_46 (fun v3 h3 => ?_))
    exact pt_d (pt_iret gx298_47 ⟨_, rfl, by rw [h3]; exact H⟩)
  · have H := H.2 e2
    refine pt_d (pt_1 (fun n d => r_iloadn gx298_7 rfl) ?_)
    refine pt_d (pt_iconst gx298_8 (fun v4 h4 => ?_))
    refine pt_d (pt_iconst gx298_9 (fun v5 h5 => ?_))
    refine pt_d (pt_stat (as := [.int x2, .int v4, .int v5]) (r := []) gx298_10 rfl (show zmt[196]? = some zM196 from rfl) rfl rfl rfl rfl (c_196 S z2 h4 h5) (kqP (fun v6 h6 => ?_)))
    show Pt _ _ _ 13 _ [.int v6] _ _
    refine pt_d (pt_ifB_eq gx298_13 h6 (fun e7 => ?_) (fun e7 => ?_))
    · have H := H.1 e7
      refine pt_d (pt_iconst gx298_46 (fun v8 h8 => ?_))
      exact pt_d (pt_iret gx298_47 ⟨_, rfl, by rw [h8]; exact H⟩)
    · have H := H.2 e7
      refine pt_d (pt_1 (fun n d => r_iloadn gx298_16 rfl) ?_)
      refine pt_d (pt_iconst gx298_17 (fun v9 h9 => ?_))
      refine pt_d (pt_icmp_ne gx298_18 z2 h9 (fun e10 => ?_) (fun e10 => ?_))
      · have H := H.1 e10
        refine pt_d (pt_1 (fun n d => r_aloadn gx298_48 rfl) ?_)
        refine pt_d (pt_1 (fun n d => r_aloadn gx298_49 rfl) ?_)
        refine pt_d (pt_getI (B := 1) gx298_50 S (fun v11 h11 => ?_))
        obtain ⟨pr12, H⟩ := H
        refine pt_d (pt_virt (as := [.int v11]) (r := []) gx298_53 rfl (show zmt[239]? = some zM239 from rfl) rfl rfl rfl rfl (c_239 S h11 pr12) (kqN (fun h_12 P12 => ?_)))
        have S12 := P12.1
        have H := H h_12 P12
        show Pt _ _ _ 56 _ [] _ _
        refine pt_d (pt_iconst gx298_56 (fun v13 h13 => ?_))
        refine pt_d (pt_1 (fun n d => r_istore (L' := [some (.ref 72), some (.int x1), some (.int x2), some (.int x3), some (.int v13), none, none, none, none, none]) gx298_57 rfl rfl) ?_)
        refine pt_d (pt_iconst gx298_59 (fun v14 h14 => ?_))
        refine pt_d (pt_1 (fun n d => r_istore (L' := [some (.ref 72), some (.int x1), some (.int x2), some (.int x3), some (.int v13), some (.int v14), none, none, none, none]) gx298_60 rfl rfl) ?_)
        refine pt_d (pt_iconst gx298_62 (fun v15 h15 => ?_))
        refine pt_d (pt_1 (fun n d => r_istore (L' := [some (.ref 72), some (.int x1), some (.int x2), some (.int x3), some (.int v13), some (.int v14), some (.int v15), none, none, none]) gx298_63 rfl rfl) ?_)
        refine pt_d (pt_iconst gx298_65 (fun v16 h16 => ?_))
        refine pt_d (pt_1 (fun n d => r_istore (L' := [some (.ref 72), some (.int x1), some (.int x2), some (.int x3), some (.int v13), some (.int v14), some (.int v15), some (.int v16), none, none]) gx298_66 rfl rfl) ?_)
        refine pt_d (pt_iconst gx298_68 (fun v17 h17 => ?_))
        refine pt_d (pt_1 (fun n d => r_istore (L' := [some (.ref 72), some (.int x1), some (.int x2), some (.int x3), some (.int v13), some (.int v14), some (.int v15), some (.int v16), some (.int v17), none]) gx298_69 rfl rfl) ?_)
        exact H v13 v14 v15 v16 v17 _ h13 h14 h15 h16 h17
      · have H := H.2 e10
        refine pt_d (pt_1 (fun n d => r_iloadn gx298_21 rfl) ?_)
        refine pt_d (pt_bipush gx298_22 (fun v18 h18 => ?_))
        refine pt_d (pt_sipush gx298_24 (fun v19 h19 => ?_))
        refine pt_d (pt_stat (as := [.int x3, .int v18, .int v19]) (r := []) gx298_27 rfl (show zmt[196]? = some zM196 from rfl) rfl rfl rfl rfl (c_196 S z3 h18 h19) (kqP (fun v20 h20 => ?_)))
        show Pt _ _ _ 30 _ [.int v20] _ _
        refine pt_d (pt_ifB_eq gx298_30 h20 (fun e21 => ?_) (fun e21 => ?_))
        · have H := H.1 e21
          refine pt_d (pt_iconst gx298_46 (fun v22 h22 => ?_))
          exact pt_d (pt_iret gx298_47 ⟨_, rfl, by rw [h22]; exact H⟩)
        · have H := H.2 e21
          refine pt_d (pt_1 (fun n d => r_iloadn gx298_33 rfl) ?_)
          refine pt_d (pt_bipush gx298_34 (fun v23 h23 => ?_))
          refine pt_d (pt_irem gx298_36 z3 h23 (fun v24 h24 => ?_))
          refine pt_d (pt_iconst gx298_37 (fun v25 h25 => ?_))
          refine pt_d (pt_bipush gx298_38 (fun v26 h26 => ?_))
          refine pt_d (pt_stat (as := [.int v24, .int v25, .int v26]) (r := []) gx298_40 rfl (show zmt[196]? = some zM196 from rfl) rfl rfl rfl rfl (c_196 S h24 h25 h26) (kqP (fun v27 h27 => ?_)))
          show Pt _ _ _ 43 _ [.int v27] _ _
          refine pt_d (pt_ifB_ne gx298_43 h27 (fun e28 => ?_) (fun e28 => ?_))
          · have H := H.1 e28
            refine pt_d (pt_1 (fun n d => r_aloadn gx298_48 rfl) ?_)
            refine pt_d (pt_1 (fun n d => r_aloadn gx298_49 rfl) ?_)
            refine pt_d (pt_getI (B := 1) gx298_50 S (fun v29 h29 => ?_))
            obtain ⟨pr30, H⟩ := H
            refine pt_d (pt_virt (as := [.int v29]) (r := []) gx298_53 rfl (show zmt[239]? = some zM239 from rfl) rfl rfl rfl rfl (c_239 S h29 pr30) (kqN (fun h_30 P30 => ?_)))
            have S30 := P30.1
            have H := H h_30 P30
            show Pt _ _ _ 56 _ [] _ _
            refine pt_d (pt_iconst gx298_56 (fun v31 h31 => ?_))
            refine pt_d (pt_1 (fun n d => r_istore (L' := [some (.ref 72), some (.int x1), some (.int x2), some (.int x3), some (.int v31), none, none, none, none, none]) gx298_57 rfl rfl) ?_)
            refine pt_d (pt_iconst gx298_59 (fun v32 h32 => ?_))
            refine pt_d (pt_1 (fun n d => r_istore (L' := [some (.ref 72), some (.int x1), some (.int x2), some (.int x3), some (.int v31), some (.int v32), none, none, none, none]) gx298_60 rfl rfl) ?_)
            refine pt_d (pt_iconst gx298_62 (fun v33 h33 => ?_))
            refine pt_d (pt_1 (fun n d => r_istore (L' := [some (.ref 72), some (.int x1), some (.int x2), some (.int x3), some (.int v31), some (.int v32), some (.int v33), none, none, none]) gx298_63 rfl rfl) ?_)
            refine pt_d (pt_iconst gx298_65 (fun v34 h34 => ?_))
            refine pt_d (pt_1 (fun n d => r_istore (L' := [some (.ref 72), some (.int x1), some (.int x2), some (.int x3), some (.int v31), some (.int v32), some (.int v33), some (.int v34), none, none]) gx298_66 rfl rfl) ?_)
            refine pt_d (pt_iconst gx298_68 (fun v35 h35 => ?_))
            refine pt_d (pt_1 (fun n d => r_istore (L' := [some (.ref 72), some (.int x1), some (.int x2), some (.int x3), some (.int v31), some (.int v32), some (.int v33), some (.int v34), some (.int v35), none]) gx298_69 rfl rfl) ?_)
            exact H v31 v32 v33 v34 v35 _ h31 h32 h33 h34 h35
          · have H := H.2 e28
            refine pt_d (pt_iconst gx298_46 (fun v36 h36 => ?_))
            exact pt_d (pt_iret gx298_47 ⟨_, rfl, by rw [h36]; exact H⟩)
theorem d298_71 {n : Nat} {X : aX} {h : aH} {P : Int → aH → Prop} {x1 x2 x3 x4 x5 x6 x7 x8 : Int32} {a1 a2 a3 a4 a5 a6 a7 a8 : Int} {u9 : Option Value} (S : wS h) (z1 : x1.toInt = a1) (z2 : x2.toInt = a2) (z3 : x3.toInt = a3) (z4 : x4.toInt = a4) (z5 : x5.toInt = a5) (z6 : x6.toInt = a6) (z7 : x7.toInt = a7) (z8 : x8.toInt = a8) (H : ((vw h 72 2 ≤ a8 → ((2 ≤ a2 → ((a6 ≤ 1000) ∧ (((0 ≤ a6 ∧ a6 ≤ 8) ∧ (0 : Int) ≤ a7 ∧ a7 ≤ a6 + 1 ∧ a6 ≤ a6) ∧ ((w64 ((iRem a3 100) * (pwF 100 (a6).toNat)) ≤ w64 (100 * (gSm (tCh (mWy a6) a6 (iDiv a3 100)) a7 a6 (a6 + 1).toNat)) → (((0 ≤ a6 ∧ a6 ≤ 8) ∧ (0 : Int) ≤ 0 ∧ 0 ≤ a7 + 1 ∧ a7 ≤ a6) ∧ ((w64 ((iRem a3 100) * (pwF 100 (a6).toNat)) ≤ w64 (100 * (gSm (tCh (mWy a6) a6 (iDiv a3 100)) 0 a7 (a7 + 1).toNat)) → P 0 h) ∧ (w64 (100 * (gSm (tCh (mWy a6) a6 (iDiv a3 100)) 0 a7 (a7 + 1).toNat)) < w64 ((iRem a3 100) * (pwF 100 (a6).toNat)) → P 2 h)))) ∧ (w64 (100 * (gSm (tCh (mWy a6) a6 (iDiv a3 100)) a7 a6 (a6 + 1).toNat)) < w64 ((iRem a3 100) * (pwF 100 (a6).toNat)) → P 1 h))))) ∧ (a2 < 2 → ((a2 ≠ 0 → P a5 h) ∧ (a2 = 0 → P a4 h))))) ∧ (a8 < vw h 72 2 → ((¬ (mFarm (vw h) a8) → (∀ (w8 : Int32) (u9_ : Option Value), w8.toInt = w32 (a8 + 1) → Pt n X zM298 71 [some (.ref 72), some (.int x1), some (.int x2), some (.int x3), some (.int x4), some (.int x5), some (.int x6), some (.int x7), some (.int w8), u9_] [] h (qI P))) ∧ ((mFarm (vw h) a8) → ((0 ≤ vw h 72 32 ∧ vw h 72 32 ≤ 200) ∧ (((∃ c, (0 ≤ c ∧ c < vw h 72 32) ∧ (vw h 98 c = a8 ∧ vw h 100 c = a1)) → ((0 ≤ vw h 72 19 ∧ vw h 72 19 ≤ 300) ∧ ((mErr (vw h) a8 a1 ≤ 2 → ((8 ≤ a4 → (∀ (w4 : Int32) (w5 : Int32) (w8 : Int32) (u9_ : Option Value), w4.toInt = w32 (a4 + 1) → w5.toInt = w32 (a5 + 0) → w8.toInt = w32 (a8 + 1) → Pt n X zM298 71 [some (.ref 72), some (.int x1), some (.int x2), some (.int x3), some (.int w4), some (.int w5), some (.int x6), some (.int x7), some (.int w8), u9_] [] h (qI P))) ∧ (a4 < 8 → (∀ (w4 : Int32) (w5 : Int32) (w6 : Int32) (w7 : Int32) (w8 : Int32) (u9_ : Option Value), w4.toInt = w32 (a4 + 1) → w5.toInt = w32 (a5 + 0) → w6.toInt = w32 (a6 + 1) → w7.toInt = w32 (a7 + 0) → w8.toInt = w32 (a8 + 1) → Pt n X zM298 71 [some (.ref 72), some (.int x1), some (.int x2), some (.int x3), some (.int w4), some (.int w5), some (.int w6), some (.int w7), some (.int w8), u9_] [] h (qI P))))) ∧ (2 < mErr (vw h) a8 a1 → ((8 ≤ a4 → (∀ (w4 : Int32) (w5 : Int32) (w8 : Int32) (u9_ : Option Value), w4.toInt = w32 (a4 + 1) → w5.toInt = w32 (a5 + 1) → w8.toInt = w32 (a8 + 1) → Pt n X zM298 71 [some (.ref 72), some (.int x1), some (.int x2), some (.int x3), some (.int w4), some (.int w5), some (.int x6), some (.int x7), some (.int w8), u9_] [] h (qI P))) ∧ (a4 < 8 → (∀ (w4 : Int32) (w5 : Int32) (w6 : Int32) (w7 : Int32) (w8 : Int32) (u9_ : Option Value), w4.toInt = w32 (a4 + 1) → w5.toInt = w32 (a5 + 1) → w6.toInt = w32 (a6 + 1) → w7.toInt = w32 (a7 + 1) → w8.toInt = w32 (a8 + 1) → Pt n X zM298 71 [some (.ref 72), some (.int x1), some (.int x2), some (.int x3), some (.int w4), some (.int w5), some (.int w6), some (.int w7), some (.int w8), u9_] [] h (qI P)))))))) ∧ (¬ (∃ c, (0 ≤ c ∧ c < vw h 72 32) ∧ (vw h 98 c = a8 ∧ vw h 100 c = a1)) → (∀ (w8 : Int32) (u9_ : Option Value), w8.toInt = w32 (a8 + 1) → Pt n X zM298 71 [some (.ref 72), some (.int x1), some (.int x2), some (.int x3), some (.int x4), some (.int x5), some (.int x6), some (.int x7), some (.int w8), u9_] [] h (qI P)))))))))) : Pt (n + 1) X zM298 71 [some (.ref 72), some (.int x1), some (.int x2), some (.int x3), some (.int x4), some (.int x5), some (.int x6), some (.int x7), some (.int x8), u9] [] h (qI P) := by
  refine pt_1 (fun n d => r_iload gx298_71 rfl) ?_
  refine pt_d (pt_1 (fun n d => r_aloadn gx298_73 rfl) ?_)
  refine pt_d (pt_getI (B := 2) gx298_74 S (fun v1 h1 => ?_))
  refine pt_d (pt_icmp_ge gx298_77 z8 h1 (fun e2 => ?_) (fun e2 => ?_))
  · have H := H.1 e2
    refine pt_d (pt_1 (fun n d => r_iloadn gx298_169 rfl) ?_)
    refine pt_d (pt_iconst gx298_170 (fun v3 h3 => ?_))
    refine pt_d (pt_icmp_ge gx298_171 z2 h3 (fun e4 => ?_) (fun e4 => ?_))
    · have H := H.1 e4
      refine pt_d (pt_1 (fun n d => r_iloadn gx298_186 rfl) ?_)
      refine pt_d (pt_bipush gx298_187 (fun v5 h5 => ?_))
      refine pt_d (pt_irem gx298_189 z3 h5 (fun v6 h6 => ?_))
      refine pt_d (pt_i2l gx298_190 h6 (fun v7 h7 => ?_))
      refine pt_d (pt_ldc2_w (c := 100) gx298_191 rfl (fun v8 h8 => ?_))
      refine pt_d (pt_1 (fun n d => r_iload gx298_194 rfl) ?_)
      obtain ⟨pr9, H⟩ := H
      refine pt_d (pt_stat (as := [.long v8, .int x6]) (r := [.long v7]) gx298_196 rfl (show zmt[296]? = some zM296 from rfl) rfl rfl rfl rfl (c_296 S h8 z6 pr9) (kqPJ (fun v9 h9 => ?_)))
      show Pt _ _ _ 199 _ [.long v9, .long v7] _ _
      refine pt_d (pt_lmul gx298_199 h7 h9 (fun v10 h10 => ?_))
      refine pt_d (pt_1 (fun n d => r_lstore (L' := [some (.ref 72), some (.int x1), some (.int x2), some (.int x3), some (.int x4), some (.int x5), some (.int x6), some (.int x7), some (.long v10), none]) gx298_200 rfl rfl) ?_)
      refine pt_d (pt_ldc2_w (c := 100) gx298_202 rfl (fun v11 h11 => ?_))
      refine pt_d (pt_1 (fun n d => r_iload gx298_205 rfl) ?_)
      refine pt_d (pt_1 (fun n d => r_iload gx298_207 rfl) ?_)
      refine pt_d (pt_1 (fun n d => r_iload gx298_209 rfl) ?_)
      refine pt_d (pt_1 (fun n d => r_iloadn gx298_211 rfl) ?_)
      refine pt_d (pt_bipush gx298_212 (fun v12 h12 => ?_))
      refine pt_d (pt_idiv gx298_214 z3 h12 (fun v13 h13 => ?_))
      obtain ⟨pr14, H⟩ := H
      refine pt_d (pt_stat (as := [.int x6, .int x7, .int x6, .int v13]) (r := [.long v11]) gx298_215 rfl (show zmt[297]? = some zM297 from rfl) rfl rfl rfl rfl (c_297 S z6 z7 z6 h13 pr14) (kqPJ (fun v14 h14 => ?_)))
      show Pt _ _ _ 218 _ [.long v14, .long v11] _ _
      refine pt_d (pt_lmul gx298_218 h11 h14 (fun v15 h15 => ?_))
      refine pt_d (pt_1 (fun n d => r_lload gx298_219 rfl) ?_)
      refine pt_d (pt_lcmp_ge gx298_221 gx298_222 h15 h10 (fun e16 => ?_) (fun e16 => ?_))
      · have H := H.1 e16
        refine pt_d (pt_ldc2_w (c := 100) gx298_227 rfl (fun v17 h17 => ?_))
        refine pt_d (pt_1 (fun n d => r_iload gx298_230 rfl) ?_)
        refine pt_d (pt_iconst gx298_232 (fun v18 h18 => ?_))
        refine pt_d (pt_1 (fun n d => r_iload gx298_233 rfl) ?_)
        refine pt_d (pt_1 (fun n d => r_iloadn gx298_235 rfl) ?_)
        refine pt_d (pt_bipush gx298_236 (fun v19 h19 => ?_))
        refine pt_d (pt_idiv gx298_238 z3 h19 (fun v20 h20 => ?_))
        obtain ⟨pr21, H⟩ := H
        refine pt_d (pt_stat (as := [.int x6, .int v18, .int x7, .int v20]) (r := [.long v17]) gx298_239 rfl (show zmt[297]? = some zM297 from rfl) rfl rfl rfl rfl (c_297 S z6 h18 z7 h20 pr21) (kqPJ (fun v21 h21 => ?_)))
        show Pt _ _ _ 242 _ [.long v21, .long v17] _ _
        refine pt_d (pt_lmul gx298_242 h17 h21 (fun v22 h22 => ?_))
        refine pt_d (pt_1 (fun n d => r_lload gx298_243 rfl) ?_)
        refine pt_d (pt_lcmp_ge gx298_245 gx298_246 h22 h10 (fun e23 => ?_) (fun e23 => ?_))
        · have H := H.1 e23
          refine pt_d (pt_iconst gx298_253 (fun v24 h24 => ?_))
          exact pt_d (pt_iret gx298_254 ⟨_, rfl, by rw [h24]; exact H⟩)
        · have H := H.2 e23
          refine pt_d (pt_iconst gx298_249 (fun v25 h25 => ?_))
          refine pt_d (pt_1 (fun n d => r_goto gx298_250) ?_)
          exact pt_d (pt_iret gx298_254 ⟨_, rfl, by rw [h25]; exact H⟩)
      · have H := H.2 e16
        refine pt_d (pt_iconst gx298_225 (fun v26 h26 => ?_))
        exact pt_d (pt_iret gx298_226 ⟨_, rfl, by rw [h26]; exact H⟩)
    · have H := H.2 e4
      refine pt_d (pt_1 (fun n d => r_iloadn gx298_174 rfl) ?_)
      refine pt_d (pt_if_ne gx298_175 z2 (fun e27 => ?_) (fun e27 => ?_))
      · have H := H.1 e27
        refine pt_d (pt_1 (fun n d => r_iload gx298_183 rfl) ?_)
        exact pt_d (pt_iret gx298_185 ⟨_, rfl, by rw [z5]; exact H⟩)
      · have H := H.2 e27
        refine pt_d (pt_1 (fun n d => r_iload gx298_178 rfl) ?_)
        refine pt_d (pt_1 (fun n d => r_goto gx298_180) ?_)
        exact pt_d (pt_iret gx298_185 ⟨_, rfl, by rw [z4]; exact H⟩)
  · have H := H.2 e2
    refine pt_d (pt_1 (fun n d => r_aloadn gx298_80 rfl) ?_)
    refine pt_d (pt_1 (fun n d => r_iload gx298_81 rfl) ?_)
    refine pt_d (pt_virt (as := [.int x8]) (r := []) gx298_83 rfl (show zmt[202]? = some zM202 from rfl) rfl rfl rfl rfl (c_202 S z8) (kqP (fun v28 h28 => ?_)))
    show Pt _ _ _ 86 _ [.int v28] _ _
    refine pt_d (pt_ifB_eq gx298_86 h28 (fun e29 => ?_) (fun e29 => ?_))
    · have H := H.1 e29
      refine pt_d (pt_iinc (c := 1) gx298_163 rfl z8 (fun v30 h30 => ?_))
      show Pt _ _ _ _ [some (.ref 72), some (.int x1), some (.int x2), some (.int x3), some (.int x4), some (.int x5), some (.int x6), some (.int x7), some (.int v30), u9] [] _ _
      refine pt_d (pt_1 (fun n d => r_goto gx298_166) ?_)
      exact H v30 _ h30
    · have H := H.2 e29
      refine pt_d (pt_1 (fun n d => r_aloadn gx298_89 rfl) ?_)
      refine pt_d (pt_1 (fun n d => r_iload gx298_90 rfl) ?_)
      refine pt_d (pt_1 (fun n d => r_iloadn gx298_92 rfl) ?_)
      obtain ⟨pr31, H⟩ := H
      refine pt_d (pt_virt (as := [.int x8, .int x1]) (r := []) gx298_93 rfl (show zmt[295]? = some zM295 from rfl) rfl rfl rfl rfl (c_295 S z8 z1 pr31) (kqP (fun v31 h31 => ?_)))
      show Pt _ _ _ 96 _ [.int v31] _ _
      refine pt_d (pt_ifB_ne gx298_96 h31 (fun e32 => ?_) (fun e32 => ?_))
      · have H := H.1 e32
        refine pt_d (pt_1 (fun n d => r_aloadn gx298_102 rfl) ?_)
        refine pt_d (pt_1 (fun n d => r_iload gx298_103 rfl) ?_)
        refine pt_d (pt_1 (fun n d => r_iloadn gx298_105 rfl) ?_)
        obtain ⟨pr33, H⟩ := H
        refine pt_d (pt_virt (as := [.int x8, .int x1]) (r := []) gx298_106 rfl (show zmt[271]? = some zM271 from rfl) rfl rfl rfl rfl (c_271 S z8 z1 pr33) (kqP (fun v33 h33 => ?_)))
        show Pt _ _ _ 109 _ [.int v33] _ _
        refine pt_d (pt_iconst gx298_109 (fun v34 h34 => ?_))
        refine pt_d (pt_icmp_le gx298_110 h33 h34 (fun e35 => ?_) (fun e35 => ?_))
        · have H := H.1 e35
          refine pt_d (pt_iconst gx298_117 (fun v36 h36 => ?_))
          refine pt_d (pt_1 (fun n d => r_istore (L' := [some (.ref 72), some (.int x1), some (.int x2), some (.int x3), some (.int x4), some (.int x5), some (.int x6), some (.int x7), some (.int x8), some (.int v36)]) gx298_118 rfl rfl) ?_)
          refine pt_d (pt_1 (fun n d => r_iload gx298_120 rfl) ?_)
          refine pt_d (pt_bipush gx298_122 (fun v37 h37 => ?_))
          refine pt_d (pt_icmp_ge gx298_124 z4 h37 (fun e38 => ?_) (fun e38 => ?_))
          · have H := H.1 e38
            refine pt_d (pt_iinc (c := 1) gx298_145 rfl z4 (fun v39 h39 => ?_))
            show Pt _ _ _ _ [some (.ref 72), some (.int x1), some (.int x2), some (.int x3), some (.int v39), some (.int x5), some (.int x6), some (.int x7), some (.int x8), some (.int v36)] [] _ _
            refine pt_d (pt_1 (fun n d => r_iload gx298_148 rfl) ?_)
            refine pt_d (pt_1 (fun n d => r_iload gx298_150 rfl) ?_)
            refine pt_d (pt_if_eq gx298_152 h36 (fun e40 => ?_) (fun e40 => absurd e40 (by decide)))
            refine pt_d (pt_iconst gx298_159 (fun v41 h41 => ?_))
            refine pt_d (pt_iadd gx298_160 z5 h41 (fun v42 h42 => ?_))
            refine pt_d (pt_1 (fun n d => r_istore (L' := [some (.ref 72), some (.int x1), some (.int x2), some (.int x3), some (.int v39), some (.int v42), some (.int x6), some (.int x7), some (.int x8), some (.int v36)]) gx298_161 rfl rfl) ?_)
            refine pt_d (pt_iinc (c := 1) gx298_163 rfl z8 (fun v43 h43 => ?_))
            show Pt _ _ _ _ [some (.ref 72), some (.int x1), some (.int x2), some (.int x3), some (.int v39), some (.int v42), some (.int x6), some (.int x7), some (.int v43), some (.int v36)] [] _ _
            refine pt_d (pt_1 (fun n d => r_goto gx298_166) ?_)
            exact H v39 v42 v43 _ h39 h42 h43
          · have H := H.2 e38
            refine pt_d (pt_iinc (c := 1) gx298_127 rfl z6 (fun v44 h44 => ?_))
            show Pt _ _ _ _ [some (.ref 72), some (.int x1), some (.int x2), some (.int x3), some (.int x4), some (.int x5), some (.int v44), some (.int x7), some (.int x8), some (.int v36)] [] _ _
            refine pt_d (pt_1 (fun n d => r_iload gx298_130 rfl) ?_)
            refine pt_d (pt_1 (fun n d => r_iload gx298_132 rfl) ?_)
            refine pt_d (pt_if_eq gx298_134 h36 (fun e45 => ?_) (fun e45 => absurd e45 (by decide)))
            refine pt_d (pt_iconst gx298_141 (fun v46 h46 => ?_))
            refine pt_d (pt_iadd gx298_142 z7 h46 (fun v47 h47 => ?_))
            refine pt_d (pt_1 (fun n d => r_istore (L' := [some (.ref 72), some (.int x1), some (.int x2), some (.int x3), some (.int x4), some (.int x5), some (.int v44), some (.int v47), some (.int x8), some (.int v36)]) gx298_143 rfl rfl) ?_)
            refine pt_d (pt_iinc (c := 1) gx298_145 rfl z4 (fun v48 h48 => ?_))
            show Pt _ _ _ _ [some (.ref 72), some (.int x1), some (.int x2), some (.int x3), some (.int v48), some (.int x5), some (.int v44), some (.int v47), some (.int x8), some (.int v36)] [] _ _
            refine pt_d (pt_1 (fun n d => r_iload gx298_148 rfl) ?_)
            refine pt_d (pt_1 (fun n d => r_iload gx298_150 rfl) ?_)
            refine pt_d (pt_if_eq gx298_152 h36 (fun e49 => ?_) (fun e49 => absurd e49 (by decide)))
            refine pt_d (pt_iconst gx298_159 (fun v50 h50 => ?_))
            refine pt_d (pt_iadd gx298_160 z5 h50 (fun v51 h51 => ?_))
            refine pt_d (pt_1 (fun n d => r_istore (L' := [some (.ref 72), some (.int x1), some (.int x2), some (.int x3), some (.int v48), some (.int v51), some (.int v44), some (.int v47), some (.int x8), some (.int v36)]) gx298_161 rfl rfl) ?_)
            refine pt_d (pt_iinc (c := 1) gx298_163 rfl z8 (fun v52 h52 => ?_))
            show Pt _ _ _ _ [some (.ref 72), some (.int x1), some (.int x2), some (.int x3), some (.int v48), some (.int v51), some (.int v44), some (.int v47), some (.int v52), some (.int v36)] [] _ _
            refine pt_d (pt_1 (fun n d => r_goto gx298_166) ?_)
            exact H v48 v51 v44 v47 v52 _ h48 h51 h44 h47 h52
        · have H := H.2 e35
          refine pt_d (pt_iconst gx298_113 (fun v53 h53 => ?_))
          refine pt_d (pt_1 (fun n d => r_goto gx298_114) ?_)
          refine pt_d (pt_1 (fun n d => r_istore (L' := [some (.ref 72), some (.int x1), some (.int x2), some (.int x3), some (.int x4), some (.int x5), some (.int x6), some (.int x7), some (.int x8), some (.int v53)]) gx298_118 rfl rfl) ?_)
          refine pt_d (pt_1 (fun n d => r_iload gx298_120 rfl) ?_)
          refine pt_d (pt_bipush gx298_122 (fun v54 h54 => ?_))
          refine pt_d (pt_icmp_ge gx298_124 z4 h54 (fun e55 => ?_) (fun e55 => ?_))
          · have H := H.1 e55
            refine pt_d (pt_iinc (c := 1) gx298_145 rfl z4 (fun v56 h56 => ?_))
            show Pt _ _ _ _ [some (.ref 72), some (.int x1), some (.int x2), some (.int x3), some (.int v56), some (.int x5), some (.int x6), some (.int x7), some (.int x8), some (.int v53)] [] _ _
            refine pt_d (pt_1 (fun n d => r_iload gx298_148 rfl) ?_)
            refine pt_d (pt_1 (fun n d => r_iload gx298_150 rfl) ?_)
            refine pt_d (pt_if_eq gx298_152 h53 (fun e57 => absurd e57 (by decide)) (fun e57 => ?_))
            refine pt_d (pt_iconst gx298_155 (fun v58 h58 => ?_))
            refine pt_d (pt_1 (fun n d => r_goto gx298_156) ?_)
            refine pt_d (pt_iadd gx298_160 z5 h58 (fun v59 h59 => ?_))
            refine pt_d (pt_1 (fun n d => r_istore (L' := [some (.ref 72), some (.int x1), some (.int x2), some (.int x3), some (.int v56), some (.int v59), some (.int x6), some (.int x7), some (.int x8), some (.int v53)]) gx298_161 rfl rfl) ?_)
            refine pt_d (pt_iinc (c := 1) gx298_163 rfl z8 (fun v60 h60 => ?_))
            show Pt _ _ _ _ [some (.ref 72), some (.int x1), some (.int x2), some (.int x3), some (.int v56), some (.int v59), some (.int x6), some (.int x7), some (.int v60), some (.int v53)] [] _ _
            refine pt_d (pt_1 (fun n d => r_goto gx298_166) ?_)
            exact H v56 v59 v60 _ h56 h59 h60
          · have H := H.2 e55
            refine pt_d (pt_iinc (c := 1) gx298_127 rfl z6 (fun v61 h61 => ?_))
            show Pt _ _ _ _ [some (.ref 72), some (.int x1), some (.int x2), some (.int x3), some (.int x4), some (.int x5), some (.int v61), some (.int x7), some (.int x8), some (.int v53)] [] _ _
            refine pt_d (pt_1 (fun n d => r_iload gx298_130 rfl) ?_)
            refine pt_d (pt_1 (fun n d => r_iload gx298_132 rfl) ?_)
            refine pt_d (pt_if_eq gx298_134 h53 (fun e62 => absurd e62 (by decide)) (fun e62 => ?_))
            refine pt_d (pt_iconst gx298_137 (fun v63 h63 => ?_))
            refine pt_d (pt_1 (fun n d => r_goto gx298_138) ?_)
            refine pt_d (pt_iadd gx298_142 z7 h63 (fun v64 h64 => ?_))
            refine pt_d (pt_1 (fun n d => r_istore (L' := [some (.ref 72), some (.int x1), some (.int x2), some (.int x3), some (.int x4), some (.int x5), some (.int v61), some (.int v64), some (.int x8), some (.int v53)]) gx298_143 rfl rfl) ?_)
            refine pt_d (pt_iinc (c := 1) gx298_145 rfl z4 (fun v65 h65 => ?_))
            show Pt _ _ _ _ [some (.ref 72), some (.int x1), some (.int x2), some (.int x3), some (.int v65), some (.int x5), some (.int v61), some (.int v64), some (.int x8), some (.int v53)] [] _ _
            refine pt_d (pt_1 (fun n d => r_iload gx298_148 rfl) ?_)
            refine pt_d (pt_1 (fun n d => r_iload gx298_150 rfl) ?_)
            refine pt_d (pt_if_eq gx298_152 h53 (fun e66 => absurd e66 (by decide)) (fun e66 => ?_))
            refine pt_d (pt_iconst gx298_155 (fun v67 h67 => ?_))
            refine pt_d (pt_1 (fun n d => r_goto gx298_156) ?_)
            refine pt_d (pt_iadd gx298_160 z5 h67 (fun v68 h68 => ?_))
            refine pt_d (pt_1 (fun n d => r_istore (L' := [some (.ref 72), some (.int x1), some (.int x2), some (.int x3), some (.int v65), some (.int v68), some (.int v61), some (.int v64), some (.int x8), some (.int v53)]) gx298_161 rfl rfl) ?_)
            refine pt_d (pt_iinc (c := 1) gx298_163 rfl z8 (fun v69 h69 => ?_))
            show Pt _ _ _ _ [some (.ref 72), some (.int x1), some (.int x2), some (.int x3), some (.int v65), some (.int v68), some (.int v61), some (.int v64), some (.int v69), some (.int v53)] [] _ _
            refine pt_d (pt_1 (fun n d => r_goto gx298_166) ?_)
            exact H v65 v68 v61 v64 v69 _ h65 h68 h61 h64 h69
      · have H := H.2 e32
        refine pt_d (pt_1 (fun n d => r_goto gx298_99) ?_)
        refine pt_d (pt_iinc (c := 1) gx298_163 rfl z8 (fun v70 h70 => ?_))
        show Pt _ _ _ _ [some (.ref 72), some (.int x1), some (.int x2), some (.int x3), some (.int x4), some (.int x5), some (.int x6), some (.int x7), some (.int v70), u9] [] _ _
        refine pt_d (pt_1 (fun n d => r_goto gx298_166) ?_)
        exact H v70 _ h70
def okRt (y w pw : Int) : Prop := (0 ≤ y ∧ y ≤ 9) ∧ (0 ≤ w ∧ w ≤ 2) ∧ (w = 2 → (1 ≤ iDiv pw 100 ∧ iDiv pw 100 ≤ 99) ∧ 1 ≤ iRem pw 100 ∧ iRem pw 100 ≤ 49)
noncomputable def aRt (c w n x : Int) (what pw : Int) (W : Int → Nat → Int) : Int := if what = 0 then c else if what = 1 then w else uLk (W n) n x (iDiv pw 100) (iRem pw 100)
def R180 (h : aH) (y w pw r : Int) (h' : aH) : Prop := (-2147483648 ≤ pw ∧ pw ≤ 2147483647) ∧ ((¬ okRt y w pw ∧ r = -1 ∧ h' = h) ∨ (okRt y w pw ∧ R66 h y h' ∧ r = aRt (vw h' 48 13) (vw h' 48 14) (vw h' 48 15) (vw h' 48 16) w pw cWy))
theorem c_180 {n : Nat} {X : aX} {h : aH} {x1 x2 x3 : Int32} {a1 a2 a3 : Int} (S : wS h) (z1 : x1.toInt = a1) (z2 : x2.toInt = a2) (z3 : x3.toInt = a3) (I : IV h) : Pt n X zM180 0 [some (.ref 0), some (.int x1), some (.int x2), some (.int x3)] [] h (qI (fun r h' => wS h' ∧ R180 h a1 a2 a3 r h')) := by
  have rg : -2147483648 ≤ a3 ∧ a3 ≤ 2147483647 := by have := iR x3; omega
  have bad : ¬ okRt a1 a2 a3 → wS h ∧ R180 h a1 a2 a3 (-1) h := fun z => ⟨S, rg, Or.inl ⟨z, rfl, rfl⟩⟩
  have jb : ∀ h' : aH, R66 h a1 h' → 0 ≤ vw h' 48 15 ∧ vw h' 48 15 ≤ 8 := fun h' ⟨q, g, _, J⟩ => by
    have := nQ_b (P66 (vw g) a1) (vw g 1 1).toNat
    rw [J.2.2.2.1]
    omega
  have fin : okRt a1 a2 a3 → ∀ h' : aH, wS h' ∧ R66 h a1 h' → ∀ r, r = aRt (vw h' 48 13) (vw h' 48 14) (vw h' 48 15) (vw h' 48 16) a2 a3 cWy → wS h' ∧ R180 h a1 a2 a3 r h' := fun o h' R r e => ⟨R.1, rg, Or.inr ⟨o, R.2, e⟩⟩
  refine pt_d (d180_0 S z1 z2 z3 ⟨fun e => bad (fun z => e z.1), fun e1 => ⟨fun e2 => ⟨fun e3 => ⟨I, fun h' R => ?_⟩, fun e3 => ⟨fun e4 => bad (fun z => e4 (z.2.2 e3).1), fun e4 => ⟨fun e5 => ⟨I, fun h' R => ?_⟩, fun e5 => bad (fun z => e5 (z.2.2 e3).2)⟩⟩⟩, fun e2 => bad (fun z => e2 z.2.1)⟩⟩)
  · have o : okRt a1 a2 a3 := ⟨e1, e2, fun z => absurd z e3⟩
    refine ⟨fun z => fin o h' R _ ?_, fun z => ⟨fun z2 => fin o h' R _ ?_, fun z2 => ⟨jb h' R.2, fin o h' R _ ?_⟩⟩⟩
    · unfold aRt
      rw [if_pos z]
    · unfold aRt
      rw [if_neg z, if_pos z2]
    · unfold aRt
      rw [if_neg z, if_neg z2]
  · have o : okRt a1 a2 a3 := ⟨e1, e2, fun _ => ⟨e4, e5⟩⟩
    refine ⟨fun z => fin o h' R _ ?_, fun z => ⟨fun z2 => fin o h' R _ ?_, fun z2 => ⟨jb h' R.2, fin o h' R _ ?_⟩⟩⟩
    · unfold aRt
      rw [if_pos z]
    · unfold aRt
      rw [if_neg z, if_pos z2]
    · unfold aRt
      rw [if_neg z, if_neg z2]
theorem c_180w {n : Nat} {X : aX} {h : aH} {x1 x2 x3 : Int32} {a1 a2 a3 : Int} (S : wS h) (z1 : x1.toInt = a1) (z2 : x2.toInt = a2) (z3 : x3.toInt = a3) (I : IV h) : Pt n X zM180 0 [some (.ref 0), some (.int x1), some (.int x2), some (.int x3)] [] h (qI (fun r h' => R180 h a1 a2 a3 r h' ∧ IV h')) := by
  refine pt_q (pt_and (c_180 S z1 z2 z3 I) (wk_180 S z1 z2 z3 I)) ?_
  rintro v h' ⟨⟨x, ev, -, r⟩, ⟨x', -, -, -, I'⟩⟩
  exact ⟨x, ev, r, I'⟩
end

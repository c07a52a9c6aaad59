-- ===== the rate of errors =====
-- sums by permutation
theorem sgm_z : ∀ n : Nat, sgm (fun _ => 0) n = 0
  | 0 => rfl
  | n + 1 => by rw [sgm_s, sgm_z n]; rfl
theorem sgm_add (f g : Int → Int) : ∀ n : Nat, sgm (fun j => f j + g j) n = sgm f n + sgm g n
  | 0 => rfl
  | n + 1 => by
    rw [sgm_s, sgm_s, sgm_s, sgm_add f g n]
    omega
theorem sgm_swap (F : Int → Int → Int) (m : Nat) : ∀ n : Nat, sgm (fun i => sgm (fun j => F i j) m) n = sgm (fun j => sgm (fun i => F i j) n) m
  | 0 => (sgm_z m).symm
  | n + 1 => by
    rw [sgm_s, sgm_swap F m n, ← sgm_add]
    exact sgm_c m (fun j _ _ => rfl)
theorem sgm_one (x : Int → Int) (a : Int) : ∀ n : Nat, sgm (fun j => pI (j = a) (x j)) n = pI (0 ≤ a ∧ a < (n : Int)) (x a)
  | 0 => (pI_f (by omega)).symm
  | n + 1 => by
    rw [sgm_s, sgm_one x a n]
    by_cases z : (n : Int) = a
    · rw [pI_f (by omega), pI_t z, pI_t (by omega), z, Int.zero_add]
    · rw [pI_f z, Int.add_zero]
      exact pI_c (by omega) (fun _ => rfl)
theorem sgm_perm {s : Int → Int} {N : Nat} (r : ∀ p, 0 ≤ p → p < (N : Int) → 0 ≤ s p ∧ s p < (N : Int)) (i : ∀ p p', 0 ≤ p → p < (N : Int) → 0 ≤ p' → p' < (N : Int) → s p = s p' → p = p') (u : ∀ c, 0 ≤ c → c < (N : Int) → ∃ p, (0 ≤ p ∧ p < (N : Int)) ∧ s p = c) (g : Int → Int) : sgm (fun p => g (s p)) N = sgm g N := by
  have e1 : sgm (fun p => g (s p)) N = sgm (fun p => sgm (fun c => pI (c = s p) (g c)) N) N := sgm_c N (fun p a b => by rw [sgm_one, pI_t (r p a b)])
  have e2 : sgm (fun c => sgm (fun p => pI (c = s p) (g c)) N) N = sgm g N := sgm_c N (fun c a b => by
    obtain ⟨p0, ⟨h0, h1⟩, e⟩ := u c a b
    rw [sgm_c (g := fun p => pI (p = p0) (g c)) N (fun p a' b' => pI_c ⟨fun z => i p p0 a' b' h0 h1 (z.symm.trans e.symm), fun z => by rw [z, e]⟩ (fun _ => rfl)), sgm_one (fun _ => g c), pI_t ⟨h0, h1⟩])
  rw [e1, sgm_swap, e2]
theorem lis_sum {V : vS} {q : Nat} {y k : Int} (L : lis V q y k) (F : Int → Int) : ∀ P : Nat, (P : Int) ≤ V 16 1 → sgm (fun i => F (V (q + 1) i)) (cnN V y k P) = sgm (fun p => pI (cnt V p y k) (F (V 21 p))) P
  | 0, _ => rfl
  | P + 1, h => by
    have ih := lis_sum L F P (by omega)
    by_cases z : cnt V (P : Nat) y k
    · rw [cnN_t z, sgm_s, sgm_s, ih, pI_t z, L.2 P (by omega) z]
    · rw [cnN_f z, sgm_s, pI_f z, Int.add_zero]
      exact ih
theorem ord_inj {V : vS} (O : JOrd V) : ∀ p p', 0 ≤ p → p < V 16 1 → 0 ≤ p' → p' < V 16 1 → V 21 p = V 21 p' → p = p' := fun p p' a b a' b' e => by
  rcases Int.lt_trichotomy p p' with z | z | z
  · have := O.2.1 p p' a z b'
    unfold lxl at this
    rw [e] at this
    omega
  · exact z
  · have := O.2.1 p' p a' z b
    unfold lxl at this
    rw [e] at this
    omega
theorem all_sum {V : vS} {q : Nat} {y k : Int} (E : EQ V) (L : lis V q y k) (F : Int → Int) : sgm (fun i => F (V (q + 1) i)) (V q 5).toNat = sgm (fun c => pI (LkM V k y c) (F c)) (V 72 19).toNat := by
  obtain ⟨C, B, Od, hd, -⟩ := E
  have hN := C.2.2.2.2.2.1
  have eN : (((V 16 1).toNat : Nat) : Int) = V 16 1 := by omega
  have s1 := lis_sum L F (V 16 1).toNat (by omega)
  rw [L.1, Int.toNat_natCast, s1, ← C.1]
  have s2 : sgm (fun p => pI (cnt V p y k) (F (V 21 p))) (V 16 1).toNat = sgm (fun p => pI (LkM V k y (V 21 p)) (F (V 21 p))) (V 16 1).toNat := sgm_c _ (fun p a b => pI_c (cnt_l C B Od hd a (by omega)) (fun _ => rfl))
  rw [s2]
  refine sgm_perm (s := fun p => V 21 p) (fun p a b => ?_) (fun p p' a b a' b' => ?_) (fun c a b => ?_) (fun c => pI (LkM V k y c) (F c))
  · have := Od.1 p a (by omega)
    exact ⟨this.1, by omega⟩
  · exact ord_inj Od p p' a (by omega) a' (by omega)
  · obtain ⟨p, hp, e⟩ := Od.2.2.1 c a (by omega)
    exact ⟨p, ⟨hp.1, by omega⟩, e⟩
theorem sgm_b {f : Int → Int} {B : Int} : ∀ n : Nat, (∀ j : Int, 0 ≤ j → j < (n : Int) → 0 ≤ f j ∧ f j ≤ B) → 0 ≤ sgm f n ∧ sgm f n ≤ B * (n : Int)
  | 0, _ => ⟨Int.le_refl _, by show (0 : Int) ≤ B * ((0 : Nat) : Int); rw [Int.natCast_zero, Int.mul_zero]; exact Int.le_refl _⟩
  | n + 1, h => by
    have ih := sgm_b n (fun j a b => h j a (by omega))
    have hn := h (n : Nat) (by omega) (by omega)
    rw [sgm_s, Int.natCast_add, Int.mul_add, show B * ((1 : Nat) : Int) = B from Int.mul_one B]
    omega
theorem sgm_sub (f g : Int → Int) : ∀ n : Nat, sgm (fun j => f j - g j) n = sgm f n - sgm g n
  | 0 => rfl
  | n + 1 => by
    rw [sgm_s, sgm_s, sgm_s, sgm_sub f g n]
    omega
theorem pI_p {p p' : Prop} {x : Int} : pI p (pI p' x) = pI (p ∧ p') x := by
  by_cases h : p
  · by_cases h' : p'
    · rw [pI_t h, pI_t h', pI_t ⟨h, h'⟩]
    · rw [pI_t h, pI_f h', pI_f (fun z => h' z.2)]
  · rw [pI_f h, pI_f (fun z => h z.1)]
theorem pI_b {p : Prop} {x B : Int} (h : 0 ≤ x ∧ x ≤ B) : 0 ≤ pI p x ∧ pI p x ≤ B := by
  by_cases z : p
  · rw [pI_t z]; exact h
  · rw [pI_f z]; omega
-- what a farm has in a year, on both sides
noncomputable def vL (V : vS) (k c : Int) : Int := min (vG V k c) (mmg V c k (V 72 32).toNat)
noncomputable def fSm (V : vS) (k y f : Int) (g : Int → Int) : Int := sgm (fun c => pI (LkM V k y c ∧ V 87 c = f) (g c)) (V 72 19).toNat
theorem size_v {V : vS} {q : Nat} {y k : Int} (A : AP V) (S : scK V q y k) {i : Int} (i0 : 0 ≤ i) (iN : i < V q 5) : V (q + 2) i = vG V k (V (q + 1) i) ∧ V (q + 3) i = vL V k (V (q + 1) i) := by
  obtain ⟨E, O, K, N, -⟩ := A
  have E0 := E
  obtain ⟨C, B, Od, hd, -⟩ := E0
  obtain ⟨⟨q2, q3⟩, L, sz, fl, ls, -⟩ := S
  obtain ⟨p, pN, zc, ci, e⟩ := li_s L i0 iN
  have l0 := (cnt_l C B Od hd (by omega) pN).mp zc
  rw [← e] at l0
  have sv : V (q + 2) i = vG V k (V (q + 1) i) := by
    unfold vG
    rw [sz i i0 iN, l0.2]
    exact size_e E L O N.2.1 N.2.2 q2 q3 i0 iN 24 (Nat.le_refl _)
  refine ⟨sv, ?_⟩
  have me : msg V (V (q + 1) i) y k (V 16 3).toNat = mmg V (V (q + 1) i) k (V 72 32).toNat := by
    rw [← l0.2, msg_e C K, K.1]
  unfold vL
  rw [ls i i0 iN, sv, me]
theorem tot_e {V : vS} {q : Nat} {y k f : Int} (A : AP V) (S : scK V q y k) (hf : 0 ≤ f ∧ f < 150) : V (q + 5) f = fSm V k y f (vG V k) ∧ V (q + 6) f = fSm V k y f (vL V k) ∧ (0 ≤ V (q + 5) f ∧ V (q + 5) f ≤ 172800) ∧ 0 ≤ V (q + 6) f ∧ V (q + 6) f ≤ V (q + 5) f := by
  have S0 := S
  have E := A.1
  have K := A.2.2.1
  obtain ⟨-, L, -, -, -, T⟩ := S
  obtain ⟨t5, t6, -⟩ := T f hf.1 hf.2
  have C := E.1
  have hN : 0 ≤ V 72 19 ∧ V 72 19 ≤ 300 := by rw [← C.1]; exact C.2.2.2.2.2
  have st : ∀ (r : Nat) (g : Int → Int), (∀ i, 0 ≤ i → i < V q 5 → V r i = g (V (q + 1) i)) → tSm V q r f (V q 5).toNat = fSm V k y f g := fun r g h => by
    unfold tSm fSm
    have e1 : sgm (fun i => pI (fmA V (q + 1) i = f) (V r i)) (V q 5).toNat = sgm (fun i => (fun c => pI (V 17 c = f) (g c)) (V (q + 1) i)) (V q 5).toNat := sgm_c _ (fun i a b => pI_c (by unfold fmA; exact Iff.rfl) (fun _ => h i a (by omega)))
    refine e1.trans ((all_sum E L (fun c => pI (V 17 c = f) (g c))).trans ?_)
    refine sgm_c _ (fun c _ _ => ?_)
    show pI (LkM V k y c) (pI (V 17 c = f) (g c)) = _
    rw [pI_p, C.2.1]
  have gb : ∀ c, 0 ≤ vG V k c ∧ vG V k c ≤ 576 := fun c => nQ_b _ 576
  have mb : ∀ c, 0 ≤ mmg V c k (V 72 32).toNat := fun c => by
    rw [← K.1, ← msg_e C K]
    exact (msg_b A.2.2.2.1.1 c _ k _).1
  have lb : ∀ c, 0 ≤ vL V k c ∧ vL V k c ≤ 576 := fun c => by
    have := gb c
    have := mb c
    unfold vL
    omega
  have b5 := sgm_b (B := 576) (V 72 19).toNat (fun c (_ : 0 ≤ c) _ => pI_b (p := LkM V k y c ∧ V 87 c = f) (gb c))
  have b6 := sgm_b (B := 576) (V 72 19).toNat (fun c (_ : 0 ≤ c) _ => pI_b (p := LkM V k y c ∧ V 87 c = f) (lb c))
  have bd := sgm_b (B := 576) (f := fun c => pI (LkM V k y c ∧ V 87 c = f) (vG V k c) - pI (LkM V k y c ∧ V 87 c = f) (vL V k c)) (V 72 19).toNat (fun c _ _ => by
    have := gb c
    have := mb c
    by_cases z : LkM V k y c ∧ V 87 c = f
    · rw [pI_t z, pI_t z]
      unfold vL
      omega
    · rw [pI_f z, pI_f z]
      omega)
  rw [sgm_sub] at bd
  rw [st (q + 2) (vG V k) (fun i a b => (size_v A S0 a b).1)] at t5
  rw [st (q + 3) (vL V k) (fun i a b => (size_v A S0 a b).2)] at t6
  unfold fSm at t5 t6 ⊢
  rw [w32_id (by omega) (by omega)] at t5 t6
  exact ⟨t5, t6, by omega, by omega⟩


-- ===== the rate of errors =====
-- powers and chances, as both sides reckon them
def pwF (b : Int) : Nat → Int
  | 0 => 1
  | k + 1 => w64 (pwF b k * b)
def cWy (n : Int) : Nat → Int
  | 0 => 1
  | i + 1 => jDiv (w64 (cWy n i * w32 (n - (i : Nat)))) (w32 ((i : Nat) + 1))
def mWi (d : Int) : Nat → Int
  | 0 => 1
  | j + 1 => jDiv (w64 (mWi d j * w32 (d + ((j : Nat) + 1)))) ((j : Nat) + 1)
def mWy (n : Int) (k : Nat) : Int := mWi (w32 (n - (k : Nat))) k
def tCh (W : Nat → Int) (n p : Int) (i : Nat) : Int := w64 (w64 (W i * pwF p i) * pwF (w32 (100 - p)) (w32 (n - (i : Nat))).toNat)
def gSm (t : Nat → Int) (a b : Int) : Nat → Int
  | 0 => 0
  | i + 1 => if a ≤ (i : Int) ∧ (i : Int) ≤ b then w64 (gSm t a b i + t i) else gSm t a b i
theorem ways_e : ∀ n i : Fin 9, i.val ≤ n.val → cWy (n.val : Int) i.val = mWy (n.val : Int) i.val := by decide +kernel
theorem gSm_c {t t' : Nat → Int} {a b : Int} : ∀ k : Nat, (∀ i, i < k → t i = t' i) → gSm t a b k = gSm t' a b k
  | 0, _ => rfl
  | k + 1, h => by
    have e : ∀ t : Nat → Int, gSm t a b (k + 1) = if a ≤ (k : Int) ∧ (k : Int) ≤ b then w64 (gSm t a b k + t k) else gSm t a b k := fun _ => rfl
    rw [e, e, gSm_c k (fun i hi => h i (by omega)), h k (by omega)]
theorem gSm_stop {t : Nat → Int} {a b : Int} {m : Nat} (hm : (m : Int) = b + 1) : ∀ d : Nat, gSm t a b (m + d) = gSm t a b m
  | 0 => rfl
  | d + 1 => by
    have e : gSm t a b (m + d + 1) = if a ≤ ((m + d : Nat) : Int) ∧ ((m + d : Nat) : Int) ≤ b then w64 (gSm t a b (m + d) + t (m + d)) else gSm t a b (m + d) := rfl
    rw [show m + (d + 1) = m + d + 1 from rfl, e, if_neg (by omega), gSm_stop hm d]
theorem gSm_low {t : Nat → Int} {a b : Int} : ∀ k : Nat, (k : Int) ≤ a → gSm t a b k = 0
  | 0, _ => rfl
  | k + 1, h => by
    have e : gSm t a b (k + 1) = if a ≤ (k : Int) ∧ (k : Int) ≤ b then w64 (gSm t a b k + t k) else gSm t a b k := rfl
    rw [e, if_neg (by omega), gSm_low k (by omega)]

theorem d69_0 {n : Nat} {X : aX} {h : aH} {P : Int → aH → Prop} {x2 : Int32} {x0 : Int64} {a2 a0 : Int} (S : wS h) (z0 : x0.toInt = a0) (z2 : x2.toInt = a2) (H : (∀ (w3 : Int64) (w5 : Int32), w3.toInt = 1 → w5.toInt = 0 → Pt n X zM69 5 [some (.long x0), none, some (.int x2), some (.long w3), none, some (.int w5)] [] h (qJ P))) : Pt (n + 1) X zM69 0 [some (.long x0), none, some (.int x2), none, none, none] [] h (qJ P) := by
  refine pt_lconst (c := 1) gx69_0 rfl (fun v1 h1 => ?_)
  refine pt_d (pt_1 (fun n d => r_lstoren (L' := [some (.long x0), none, some (.int x2), some (.long v1), none, none]) gx69_1 rfl rfl) ?_)
  refine pt_d (pt_iconst gx69_2 (fun v2 h2 => ?_))
  refine pt_d (pt_1 (fun n d => r_istore (L' := [some (.long x0), none, some (.int x2), some (.long v1), none, some (.int v2)]) gx69_3 rfl rfl) ?_)
  exact H v1 v2 h1 h2
theorem d69_5 {n : Nat} {X : aX} {h : aH} {P : Int → aH → Prop} {x2 x5 : Int32} {x0 x3 : Int64} {a2 a5 a0 a3 : Int} (S : wS h) (z0 : x0.toInt = a0) (z2 : x2.toInt = a2) (z3 : x3.toInt = a3) (z5 : x5.toInt = a5) (H : ((a2 ≤ a5 → P a3 h) ∧ (a5 < a2 → (∀ (w3 : Int64) (w5 : Int32), w3.toInt = w64 (a3 * a0) → w5.toInt = w32 (a5 + 1) → Pt n X zM69 5 [some (.long x0), none, some (.int x2), some (.long w3), none, some (.int w5)] [] h (qJ P))))) : Pt (n + 1) X zM69 5 [some (.long x0), none, some (.int x2), some (.long x3), none, some (.int x5)] [] h (qJ P) := by
  refine pt_1 (fun n d => r_iload gx69_5 rfl) ?_
  refine pt_d (pt_1 (fun n d => r_iloadn gx69_7 rfl) ?_)
  refine pt_d (pt_icmp_ge gx69_8 z5 z2 (fun e1 => ?_) (fun e1 => ?_))
  · have H := H.1 e1
    refine pt_d (pt_1 (fun n d => r_lloadn gx69_21 rfl) ?_)
    exact pt_d (pt_lret gx69_22 ⟨_, rfl, by rw [z3]; exact H⟩)
  · have H := H.2 e1
    refine pt_d (pt_1 (fun n d => r_lloadn gx69_11 rfl) ?_)
    refine pt_d (pt_1 (fun n d => r_lloadn gx69_12 rfl) ?_)
    refine pt_d (pt_lmul gx69_13 z3 z0 (fun v2 h2 => ?_))
    refine pt_d (pt_1 (fun n d => r_lstoren (L' := [some (.long x0), none, some (.int x2), some (.long v2), none, some (.int x5)]) gx69_14 rfl rfl) ?_)
    refine pt_d (pt_iinc (c := 1) gx69_15 rfl z5 (fun v3 h3 => ?_))
    show Pt _ _ _ _ [some (.long x0), none, some (.int x2), some (.long v2), none, some (.int v3)] [] _ _
    refine pt_d (pt_1 (fun n d => r_goto gx69_18) ?_)
    exact H v2 v3 h2 h3
theorem d296_0 {n : Nat} {X : aX} {h : aH} {P : Int → aH → Prop} {x2 : Int32} {x0 : Int64} {a2 a0 : Int} (S : wS h) (z0 : x0.toInt = a0) (z2 : x2.toInt = a2) (H : (∀ (w3 : Int64) (w5 : Int32), w3.toInt = 1 → w5.toInt = 0 → Pt n X zM296 5 [some (.long x0), none, some (.int x2), some (.long w3), none, some (.int w5)] [] h (qJ P))) : Pt (n + 1) X zM296 0 [some (.long x0), none, some (.int x2), none, none, none] [] h (qJ P) := by
  refine pt_lconst (c := 1) gx296_0 rfl (fun v1 h1 => ?_)
  refine pt_d (pt_1 (fun n d => r_lstoren (L' := [some (.long x0), none, some (.int x2), some (.long v1), none, none]) gx296_1 rfl rfl) ?_)
  refine pt_d (pt_iconst gx296_2 (fun v2 h2 => ?_))
  refine pt_d (pt_1 (fun n d => r_istore (L' := [some (.long x0), none, some (.int x2), some (.long v1), none, some (.int v2)]) gx296_3 rfl rfl) ?_)
  exact H v1 v2 h1 h2
theorem d296_5 {n : Nat} {X : aX} {h : aH} {P : Int → aH → Prop} {x2 x5 : Int32} {x0 x3 : Int64} {a2 a5 a0 a3 : Int} (S : wS h) (z0 : x0.toInt = a0) (z2 : x2.toInt = a2) (z3 : x3.toInt = a3) (z5 : x5.toInt = a5) (H : ((a2 ≤ a5 → P a3 h) ∧ (a5 < a2 → (∀ (w3 : Int64) (w5 : Int32), w3.toInt = w64 (a3 * a0) → w5.toInt = w32 (a5 + 1) → Pt n X zM296 5 [some (.long x0), none, some (.int x2), some (.long w3), none, some (.int w5)] [] h (qJ P))))) : Pt (n + 1) X zM296 5 [some (.long x0), none, some (.int x2), some (.long x3), none, some (.int x5)] [] h (qJ P) := by
  refine pt_1 (fun n d => r_iload gx296_5 rfl) ?_
  refine pt_d (pt_1 (fun n d => r_iloadn gx296_7 rfl) ?_)
  refine pt_d (pt_icmp_ge gx296_8 z5 z2 (fun e1 => ?_) (fun e1 => ?_))
  · have H := H.1 e1
    refine pt_d (pt_1 (fun n d => r_lloadn gx296_21 rfl) ?_)
    exact pt_d (pt_lret gx296_22 ⟨_, rfl, by rw [z3]; exact H⟩)
  · have H := H.2 e1
    refine pt_d (pt_1 (fun n d => r_lloadn gx296_11 rfl) ?_)
    refine pt_d (pt_1 (fun n d => r_lloadn gx296_12 rfl) ?_)
    refine pt_d (pt_lmul gx296_13 z3 z0 (fun v2 h2 => ?_))
    refine pt_d (pt_1 (fun n d => r_lstoren (L' := [some (.long x0), none, some (.int x2), some (.long v2), none, some (.int x5)]) gx296_14 rfl rfl) ?_)
    refine pt_d (pt_iinc (c := 1) gx296_15 rfl z5 (fun v3 h3 => ?_))
    show Pt _ _ _ _ [some (.long x0), none, some (.int x2), some (.long v2), none, some (.int v3)] [] _ _
    refine pt_d (pt_1 (fun n d => r_goto gx296_18) ?_)
    exact H v2 v3 h2 h3
theorem l_69 {X : aX} {h : aH} {b m : Int} (S : wS h) (hm : m ≤ 1000) : ∀ (n : Nat) (x0 : Int64) (x2 : Int32) (x3 : Int64) (x5 : Int32) (k : Nat), x0.toInt = b → x2.toInt = m → x3.toInt = pwF b k → x5.toInt = (k : Int) → (k = 0 ∨ (k : Int) ≤ m) → Pt n X zM69 5 [some (.long x0), none, some (.int x2), some (.long x3), none, some (.int x5)] [] h (qJ (fun y h' => h' = h ∧ y = pwF b m.toNat)) := by
  intro n
  induction n with
  | zero => intros; exact pt_z
  | succ n ih =>
    intro x0 x2 x3 x5 k h0 h2 h3 h5 hk
    refine d69_5 S h0 h2 h3 h5 ⟨fun e => ⟨rfl, ?_⟩, fun e w3 w5 g3 g5 => ?_⟩
    · rw [show m.toNat = k by omega]
    · replace g5 := w_1 g5 (by omega) (by omega)
      exact ih x0 x2 w3 w5 (k + 1) h0 h2 g3 (by omega) (Or.inr (by omega))
theorem c_69 {n : Nat} {X : aX} {h : aH} {x2 : Int32} {x0 : Int64} {a2 a0 : Int} (S : wS h) (z0 : x0.toInt = a0) (z2 : x2.toInt = a2) (hp : a2 ≤ 1000) : Pt n X zM69 0 [some (.long x0), none, some (.int x2), none, none, none] [] h (qJ (fun y h' => h' = h ∧ y = pwF a0 a2.toNat)) :=
  pt_d (d69_0 S z0 z2 (fun w3 w5 g3 g5 => l_69 S hp n x0 x2 w3 w5 0 z0 z2 g3 g5 (Or.inl rfl)))

theorem l_296 {X : aX} {h : aH} {b m : Int} (S : wS h) (hm : m ≤ 1000) : ∀ (n : Nat) (x0 : Int64) (x2 : Int32) (x3 : Int64) (x5 : Int32) (k : Nat), x0.toInt = b → x2.toInt = m → x3.toInt = pwF b k → x5.toInt = (k : Int) → (k = 0 ∨ (k : Int) ≤ m) → Pt n X zM296 5 [some (.long x0), none, some (.int x2), some (.long x3), none, some (.int x5)] [] h (qJ (fun y h' => h' = h ∧ y = pwF b m.toNat)) := by
  intro n
  induction n with
  | zero => intros; exact pt_z
  | succ n ih =>
    intro x0 x2 x3 x5 k h0 h2 h3 h5 hk
    refine d296_5 S h0 h2 h3 h5 ⟨fun e => ⟨rfl, ?_⟩, fun e w3 w5 g3 g5 => ?_⟩
    · rw [show m.toNat = k by omega]
    · replace g5 := w_1 g5 (by omega) (by omega)
      exact ih x0 x2 w3 w5 (k + 1) h0 h2 g3 (by omega) (Or.inr (by omega))
theorem c_296 {n : Nat} {X : aX} {h : aH} {x2 : Int32} {x0 : Int64} {a2 a0 : Int} (S : wS h) (z0 : x0.toInt = a0) (z2 : x2.toInt = a2) (hp : a2 ≤ 1000) : Pt n X zM296 0 [some (.long x0), none, some (.int x2), none, none, none] [] h (qJ (fun y h' => h' = h ∧ y = pwF a0 a2.toNat)) :=
  pt_d (d296_0 S z0 z2 (fun w3 w5 g3 g5 => l_296 S hp n x0 x2 w3 w5 0 z0 z2 g3 g5 (Or.inl rfl)))

theorem d68_0 {n : Nat} {X : aX} {h : aH} {P : Int → aH → Prop} {x1 x2 x3 : Int32} {a1 a2 a3 : Int} (S : wS h) (z1 : x1.toInt = a1) (z2 : x2.toInt = a2) (z3 : x3.toInt = a3) (H : (∀ (w4 : Int64) (w6 : Int64) (w8 : Int32), w4.toInt = 0 → w6.toInt = 1 → w8.toInt = 0 → Pt n X zM68 9 [some (.ref 48), some (.int x1), some (.int x2), some (.int x3), some (.long w4), none, some (.long w6), none, some (.int w8)] [] h (qJ P))) : Pt (n + 1) X zM68 0 [some (.ref 48), some (.int x1), some (.int x2), some (.int x3), none, none, none, none, none] [] h (qJ P) := by
  refine pt_lconst (c := 0) gx68_0 rfl (fun v1 h1 => ?_)
  refine pt_d (pt_1 (fun n d => r_lstore (L' := [some (.ref 48), some (.int x1), some (.int x2), some (.int x3), some (.long v1), none, none, none, none]) gx68_1 rfl rfl) ?_)
  refine pt_d (pt_lconst (c := 1) gx68_3 rfl (fun v2 h2 => ?_))
  refine pt_d (pt_1 (fun n d => r_lstore (L' := [some (.ref 48), some (.int x1), some (.int x2), some (.int x3), some (.long v1), none, some (.long v2), none, none]) gx68_4 rfl rfl) ?_)
  refine pt_d (pt_iconst gx68_6 (fun v3 h3 => ?_))
  refine pt_d (pt_1 (fun n d => r_istore (L' := [some (.ref 48), some (.int x1), some (.int x2), some (.int x3), some (.long v1), none, some (.long v2), none, some (.int v3)]) gx68_7 rfl rfl) ?_)
  exact H v1 v2 v3 h1 h2 h3
theorem d68_9 {n : Nat} {X : aX} {h : aH} {P : Int → aH → Prop} {x1 x2 x3 x8 : Int32} {x4 x6 : Int64} {a1 a2 a3 a8 a4 a6 : Int} (S : wS h) (z1 : x1.toInt = a1) (z2 : x2.toInt = a2) (z3 : x3.toInt = a3) (z4 : x4.toInt = a4) (z6 : x6.toInt = a6) (z8 : x8.toInt = a8) (H : ((vw h 48 15 < a8 → P a4 h) ∧ (a8 ≤ vw h 48 15 → ((¬ (a1 ≤ a8 ∧ a8 ≤ a2) → (∀ (w6 : Int64) (w8 : Int32), w6.toInt = jDiv (w64 (a6 * (w32 ((vw h 48 15) - a8)))) (w32 (a8 + 1)) → w8.toInt = w32 (a8 + 1) → Pt n X zM68 9 [some (.ref 48), some (.int x1), some (.int x2), some (.int x3), some (.long x4), none, some (.long w6), none, some (.int w8)] [] h (qJ P))) ∧ ((a1 ≤ a8 ∧ a8 ≤ a2) → ((a8 ≤ 1000) ∧ ((w32 ((vw h 48 15) - a8) ≤ 1000) ∧ (∀ (w4 : Int64) (w6 : Int64) (w8 : Int32), w4.toInt = w64 (a4 + (w64 ((w64 (a6 * (pwF a3 (a8).toNat))) * (pwF (w32 (100 - a3)) ((w32 ((vw h 48 15) - a8))).toNat)))) → w6.toInt = jDiv (w64 (a6 * (w32 ((vw h 48 15) - a8)))) (w32 (a8 + 1)) → w8.toInt = w32 (a8 + 1) → Pt n X zM68 9 [some (.ref 48), some (.int x1), some (.int x2), some (.int x3), some (.long w4), none, some (.long w6), none, some (.int w8)] [] h (qJ P))))))))) : Pt (n + 1) X zM68 9 [some (.ref 48), some (.int x1), some (.int x2), some (.int x3), some (.long x4), none, some (.long x6), none, some (.int x8)] [] h (qJ P) := by
  refine pt_1 (fun n d => r_iload gx68_9 rfl) ?_
  refine pt_d (pt_1 (fun n d => r_aloadn gx68_11 rfl) ?_)
  refine pt_d (pt_getI (B := 15) gx68_12 S (fun v1 h1 => ?_))
  refine pt_d (pt_icmp_gt gx68_15 z8 h1 (fun e2 => ?_) (fun e2 => ?_))
  · have H := H.1 e2
    refine pt_d (pt_1 (fun n d => r_lload gx68_84 rfl) ?_)
    exact pt_d (pt_lret gx68_86 ⟨_, rfl, by rw [z4]; exact H⟩)
  · have H := H.2 e2
    refine pt_d (pt_1 (fun n d => r_iload gx68_18 rfl) ?_)
    refine pt_d (pt_1 (fun n d => r_iloadn gx68_20 rfl) ?_)
    refine pt_d (pt_1 (fun n d => r_iloadn gx68_21 rfl) ?_)
    refine pt_d (pt_stat (as := [.int x8, .int x1, .int x2]) (r := []) gx68_22 rfl (show zmt[137]? = some zM137 from rfl) rfl rfl rfl rfl (c_137 S z8 z1 z2) (kqP (fun v3 h3 => ?_)))
    show Pt _ _ _ 25 _ [.int v3] _ _
    refine pt_d (pt_ifB_eq gx68_25 h3 (fun e4 => ?_) (fun e4 => ?_))
    · have H := H.1 e4
      refine pt_d (pt_1 (fun n d => r_lload gx68_59 rfl) ?_)
      refine pt_d (pt_1 (fun n d => r_aloadn gx68_61 rfl) ?_)
      refine pt_d (pt_getI (B := 15) gx68_62 S (fun v5 h5 => ?_))
      refine pt_d (pt_1 (fun n d => r_iload gx68_65 rfl) ?_)
      refine pt_d (pt_isub gx68_67 h5 z8 (fun v6 h6 => ?_))
      refine pt_d (pt_i2l gx68_68 h6 (fun v7 h7 => ?_))
      refine pt_d (pt_lmul gx68_69 z6 h7 (fun v8 h8 => ?_))
      refine pt_d (pt_1 (fun n d => r_iload gx68_70 rfl) ?_)
      refine pt_d (pt_iconst gx68_72 (fun v9 h9 => ?_))
      refine pt_d (pt_iadd gx68_73 z8 h9 (fun v10 h10 => ?_))
      refine pt_d (pt_i2l gx68_74 h10 (fun v11 h11 => ?_))
      refine pt_d (pt_ldiv gx68_75 h8 h11 (fun v12 h12 => ?_))
      refine pt_d (pt_1 (fun n d => r_lstore (L' := [some (.ref 48), some (.int x1), some (.int x2), some (.int x3), some (.long x4), none, some (.long v12), none, some (.int x8)]) gx68_76 rfl rfl) ?_)
      refine pt_d (pt_iinc (c := 1) gx68_78 rfl z8 (fun v13 h13 => ?_))
      show Pt _ _ _ _ [some (.ref 48), some (.int x1), some (.int x2), some (.int x3), some (.long x4), none, some (.long v12), none, some (.int v13)] [] _ _
      refine pt_d (pt_1 (fun n d => r_goto gx68_81) ?_)
      exact H v12 v13 h12 h13
    · have H := H.2 e4
      refine pt_d (pt_1 (fun n d => r_lload gx68_28 rfl) ?_)
      refine pt_d (pt_1 (fun n d => r_lload gx68_30 rfl) ?_)
      refine pt_d (pt_1 (fun n d => r_iloadn gx68_32 rfl) ?_)
      refine pt_d (pt_i2l gx68_33 z3 (fun v14 h14 => ?_))
      refine pt_d (pt_1 (fun n d => r_iload gx68_34 rfl) ?_)
      obtain ⟨pr15, H⟩ := H
      refine pt_d (pt_stat (as := [.long v14, .int x8]) (r := [.long x6, .long x4]) gx68_36 rfl (show zmt[69]? = some zM69 from rfl) rfl rfl rfl rfl (c_69 S h14 z8 pr15) (kqPJ (fun v15 h15 => ?_)))
      show Pt _ _ _ 39 _ [.long v15, .long x6, .long x4] _ _
      refine pt_d (pt_lmul gx68_39 z6 h15 (fun v16 h16 => ?_))
      refine pt_d (pt_bipush gx68_40 (fun v17 h17 => ?_))
      refine pt_d (pt_1 (fun n d => r_iloadn gx68_42 rfl) ?_)
      refine pt_d (pt_isub gx68_43 h17 z3 (fun v18 h18 => ?_))
      refine pt_d (pt_i2l gx68_44 h18 (fun v19 h19 => ?_))
      refine pt_d (pt_1 (fun n d => r_aloadn gx68_45 rfl) ?_)
      refine pt_d (pt_getI (B := 15) gx68_46 S (fun v20 h20 => ?_))
      refine pt_d (pt_1 (fun n d => r_iload gx68_49 rfl) ?_)
      refine pt_d (pt_isub gx68_51 h20 z8 (fun v21 h21 => ?_))
      obtain ⟨pr22, H⟩ := H
      refine pt_d (pt_stat (as := [.long v19, .int v21]) (r := [.long v16, .long x4]) gx68_52 rfl (show zmt[69]? = some zM69 from rfl) rfl rfl rfl rfl (c_69 S h19 h21 pr22) (kqPJ (fun v22 h22 => ?_)))
      show Pt _ _ _ 55 _ [.long v22, .long v16, .long x4] _ _
      refine pt_d (pt_lmul gx68_55 h16 h22 (fun v23 h23 => ?_))
      refine pt_d (pt_ladd gx68_56 z4 h23 (fun v24 h24 => ?_))
      refine pt_d (pt_1 (fun n d => r_lstore (L' := [some (.ref 48), some (.int x1), some (.int x2), some (.int x3), some (.long v24), none, some (.long x6), none, some (.int x8)]) gx68_57 rfl rfl) ?_)
      refine pt_d (pt_1 (fun n d => r_lload gx68_59 rfl) ?_)
      refine pt_d (pt_1 (fun n d => r_aloadn gx68_61 rfl) ?_)
      refine pt_d (pt_getI (B := 15) gx68_62 S (fun v25 h25 => ?_))
      refine pt_d (pt_1 (fun n d => r_iload gx68_65 rfl) ?_)
      refine pt_d (pt_isub gx68_67 h25 z8 (fun v26 h26 => ?_))
      refine pt_d (pt_i2l gx68_68 h26 (fun v27 h27 => ?_))
      refine pt_d (pt_lmul gx68_69 z6 h27 (fun v28 h28 => ?_))
      refine pt_d (pt_1 (fun n d => r_iload gx68_70 rfl) ?_)
      refine pt_d (pt_iconst gx68_72 (fun v29 h29 => ?_))
      refine pt_d (pt_iadd gx68_73 z8 h29 (fun v30 h30 => ?_))
      refine pt_d (pt_i2l gx68_74 h30 (fun v31 h31 => ?_))
      refine pt_d (pt_ldiv gx68_75 h28 h31 (fun v32 h32 => ?_))
      refine pt_d (pt_1 (fun n d => r_lstore (L' := [some (.ref 48), some (.int x1), some (.int x2), some (.int x3), some (.long v24), none, some (.long v32), none, some (.int x8)]) gx68_76 rfl rfl) ?_)
      refine pt_d (pt_iinc (c := 1) gx68_78 rfl z8 (fun v33 h33 => ?_))
      show Pt _ _ _ _ [some (.ref 48), some (.int x1), some (.int x2), some (.int x3), some (.long v24), none, some (.long v32), none, some (.int v33)] [] _ _
      refine pt_d (pt_1 (fun n d => r_goto gx68_81) ?_)
      exact H v24 v32 v33 h24 h32 h33
theorem d297_0 {n : Nat} {X : aX} {h : aH} {P : Int → aH → Prop} {x0 x1 x2 x3 : Int32} {a0 a1 a2 a3 : Int} (S : wS h) (z0 : x0.toInt = a0) (z1 : x1.toInt = a1) (z2 : x2.toInt = a2) (z3 : x3.toInt = a3) (H : (∀ (w4 : Int64) (u7_ : Option Value) (u9_ : Option Value), w4.toInt = 0 → Pt n X zM297 6 [some (.int x0), some (.int x1), some (.int x2), some (.int x3), some (.long w4), none, some (.int x1), u7_, none, u9_] [] h (qJ P))) : Pt (n + 1) X zM297 0 [some (.int x0), some (.int x1), some (.int x2), some (.int x3), none, none, none, none, none, none] [] h (qJ P) := by
  refine pt_lconst (c := 0) gx297_0 rfl (fun v1 h1 => ?_)
  refine pt_d (pt_1 (fun n d => r_lstore (L' := [some (.int x0), some (.int x1), some (.int x2), some (.int x3), some (.long v1), none, none, none, none, none]) gx297_1 rfl rfl) ?_)
  refine pt_d (pt_1 (fun n d => r_iloadn gx297_3 rfl) ?_)
  refine pt_d (pt_1 (fun n d => r_istore (L' := [some (.int x0), some (.int x1), some (.int x2), some (.int x3), some (.long v1), none, some (.int x1), none, none, none]) gx297_4 rfl rfl) ?_)
  exact H v1 _ _ h1
theorem d297_6 {n : Nat} {X : aX} {h : aH} {P : Int → aH → Prop} {x0 x1 x2 x3 x6 : Int32} {x4 : Int64} {a0 a1 a2 a3 a6 a4 : Int} {u7 u9 : Option Value} (S : wS h) (z0 : x0.toInt = a0) (z1 : x1.toInt = a1) (z2 : x2.toInt = a2) (z3 : x3.toInt = a3) (z4 : x4.toInt = a4) (z6 : x6.toInt = a6) (H : ((a2 < a6 → P a4 h) ∧ (a6 ≤ a2 → (∀ (w7 : Int64) (w9 : Int32), w7.toInt = 1 → w9.toInt = 1 → Pt n X zM297 18 [some (.int x0), some (.int x1), some (.int x2), some (.int x3), some (.long x4), none, some (.int x6), some (.long w7), none, some (.int w9)] [] h (qJ P))))) : Pt (n + 1) X zM297 6 [some (.int x0), some (.int x1), some (.int x2), some (.int x3), some (.long x4), none, some (.int x6), u7, none, u9] [] h (qJ P) := by
  refine pt_1 (fun n d => r_iload gx297_6 rfl) ?_
  refine pt_d (pt_1 (fun n d => r_iloadn gx297_8 rfl) ?_)
  refine pt_d (pt_icmp_gt gx297_9 z6 z2 (fun e1 => ?_) (fun e1 => ?_))
  · have H := H.1 e1
    refine pt_d (pt_1 (fun n d => r_lload gx297_82 rfl) ?_)
    exact pt_d (pt_lret gx297_84 ⟨_, rfl, by rw [z4]; exact H⟩)
  · have H := H.2 e1
    refine pt_d (pt_lconst (c := 1) gx297_12 rfl (fun v2 h2 => ?_))
    refine pt_d (pt_1 (fun n d => r_lstore (L' := [some (.int x0), some (.int x1), some (.int x2), some (.int x3), some (.long x4), none, some (.int x6), some (.long v2), none, u9]) gx297_13 rfl rfl) ?_)
    refine pt_d (pt_iconst gx297_15 (fun v3 h3 => ?_))
    refine pt_d (pt_1 (fun n d => r_istore (L' := [some (.int x0), some (.int x1), some (.int x2), some (.int x3), some (.long x4), none, some (.int x6), some (.long v2), none, some (.int v3)]) gx297_16 rfl rfl) ?_)
    exact H v2 v3 h2 h3
theorem d297_18 {n : Nat} {X : aX} {h : aH} {P : Int → aH → Prop} {x0 x1 x2 x3 x6 x9 : Int32} {x4 x7 : Int64} {a0 a1 a2 a3 a6 a9 a4 a7 : Int} (S : wS h) (z0 : x0.toInt = a0) (z1 : x1.toInt = a1) (z2 : x2.toInt = a2) (z3 : x3.toInt = a3) (z4 : x4.toInt = a4) (z6 : x6.toInt = a6) (z7 : x7.toInt = a7) (z9 : x9.toInt = a9) (H : ((a6 < a9 → ((a6 ≤ 1000) ∧ ((w32 (a0 - a6) ≤ 1000) ∧ (∀ (w4 : Int64) (w6 : Int32) (u7_ : Option Value) (u9_ : Option Value), w4.toInt = w64 (a4 + (w64 ((w64 (a7 * (pwF a3 (a6).toNat))) * (pwF (w32 (100 - a3)) ((w32 (a0 - a6))).toNat)))) → w6.toInt = w32 (a6 + 1) → Pt n X zM297 6 [some (.int x0), some (.int x1), some (.int x2), some (.int x3), some (.long w4), none, some (.int w6), u7_, none, u9_] [] h (qJ P))))) ∧ (a9 ≤ a6 → (∀ (w7 : Int64) (w9 : Int32), w7.toInt = jDiv (w64 (a7 * (w32 ((w32 (a0 - a6)) + a9)))) a9 → w9.toInt = w32 (a9 + 1) → Pt n X zM297 18 [some (.int x0), some (.int x1), some (.int x2), some (.int x3), some (.long x4), none, some (.int x6), some (.long w7), none, some (.int w9)] [] h (qJ P))))) : Pt (n + 1) X zM297 18 [some (.int x0), some (.int x1), some (.int x2), some (.int x3), some (.long x4), none, some (.int x6), some (.long x7), none, some (.int x9)] [] h (qJ P) := by
  refine pt_1 (fun n d => r_iload gx297_18 rfl) ?_
  refine pt_d (pt_1 (fun n d => r_iload gx297_20 rfl) ?_)
  refine pt_d (pt_icmp_gt gx297_22 z9 z6 (fun e1 => ?_) (fun e1 => ?_))
  · have H := H.1 e1
    refine pt_d (pt_1 (fun n d => r_lload gx297_48 rfl) ?_)
    refine pt_d (pt_1 (fun n d => r_lload gx297_50 rfl) ?_)
    refine pt_d (pt_1 (fun n d => r_iloadn gx297_52 rfl) ?_)
    refine pt_d (pt_i2l gx297_53 z3 (fun v2 h2 => ?_))
    refine pt_d (pt_1 (fun n d => r_iload gx297_54 rfl) ?_)
    obtain ⟨pr3, H⟩ := H
    refine pt_d (pt_stat (as := [.long v2, .int x6]) (r := [.long x7, .long x4]) gx297_56 rfl (show zmt[296]? = some zM296 from rfl) rfl rfl rfl rfl (c_296 S h2 z6 pr3) (kqPJ (fun v3 h3 => ?_)))
    show Pt _ _ _ 59 _ [.long v3, .long x7, .long x4] _ _
    refine pt_d (pt_lmul gx297_59 z7 h3 (fun v4 h4 => ?_))
    refine pt_d (pt_bipush gx297_60 (fun v5 h5 => ?_))
    refine pt_d (pt_1 (fun n d => r_iloadn gx297_62 rfl) ?_)
    refine pt_d (pt_isub gx297_63 h5 z3 (fun v6 h6 => ?_))
    refine pt_d (pt_i2l gx297_64 h6 (fun v7 h7 => ?_))
    refine pt_d (pt_1 (fun n d => r_iloadn gx297_65 rfl) ?_)
    refine pt_d (pt_1 (fun n d => r_iload gx297_66 rfl) ?_)
    refine pt_d (pt_isub gx297_68 z0 z6 (fun v8 h8 => ?_))
    obtain ⟨pr9, H⟩ := H
    refine pt_d (pt_stat (as := [.long v7, .int v8]) (r := [.long v4, .long x4]) gx297_69 rfl (show zmt[296]? = some zM296 from rfl) rfl rfl rfl rfl (c_296 S h7 h8 pr9) (kqPJ (fun v9 h9 => ?_)))
    show Pt _ _ _ 72 _ [.long v9, .long v4, .long x4] _ _
    refine pt_d (pt_lmul gx297_72 h4 h9 (fun v10 h10 => ?_))
    refine pt_d (pt_ladd gx297_73 z4 h10 (fun v11 h11 => ?_))
    refine pt_d (pt_1 (fun n d => r_lstore (L' := [some (.int x0), some (.int x1), some (.int x2), some (.int x3), some (.long v11), none, some (.int x6), some (.long x7), none, some (.int x9)]) gx297_74 rfl rfl) ?_)
    refine pt_d (pt_iinc (c := 1) gx297_76 rfl z6 (fun v12 h12 => ?_))
    show Pt _ _ _ _ [some (.int x0), some (.int x1), some (.int x2), some (.int x3), some (.long v11), none, some (.int v12), some (.long x7), none, some (.int x9)] [] _ _
    refine pt_d (pt_1 (fun n d => r_goto gx297_79) ?_)
    exact H v11 v12 _ _ h11 h12
  · have H := H.2 e1
    refine pt_d (pt_1 (fun n d => r_lload gx297_25 rfl) ?_)
    refine pt_d (pt_1 (fun n d => r_iloadn gx297_27 rfl) ?_)
    refine pt_d (pt_1 (fun n d => r_iload gx297_28 rfl) ?_)
    refine pt_d (pt_isub gx297_30 z0 z6 (fun v13 h13 => ?_))
    refine pt_d (pt_1 (fun n d => r_iload gx297_31 rfl) ?_)
    refine pt_d (pt_iadd gx297_33 h13 z9 (fun v14 h14 => ?_))
    refine pt_d (pt_i2l gx297_34 h14 (fun v15 h15 => ?_))
    refine pt_d (pt_lmul gx297_35 z7 h15 (fun v16 h16 => ?_))
    refine pt_d (pt_1 (fun n d => r_iload gx297_36 rfl) ?_)
    refine pt_d (pt_i2l gx297_38 z9 (fun v17 h17 => ?_))
    refine pt_d (pt_ldiv gx297_39 h16 h17 (fun v18 h18 => ?_))
    refine pt_d (pt_1 (fun n d => r_lstore (L' := [some (.int x0), some (.int x1), some (.int x2), some (.int x3), some (.long x4), none, some (.int x6), some (.long v18), none, some (.int x9)]) gx297_40 rfl rfl) ?_)
    refine pt_d (pt_iinc (c := 1) gx297_42 rfl z9 (fun v19 h19 => ?_))
    show Pt _ _ _ _ [some (.int x0), some (.int x1), some (.int x2), some (.int x3), some (.long x4), none, some (.int x6), some (.long v18), none, some (.int v19)] [] _ _
    refine pt_d (pt_1 (fun n d => r_goto gx297_45) ?_)
    exact H v18 v19 h18 h19
theorem l_68 {X : aX} {h : aH} {f t p : Int} (S : wS h) (hn : 0 ≤ vw h 48 15 ∧ vw h 48 15 ≤ 8) : ∀ (n : Nat) (x1 x2 x3 x8 : Int32) (x4 x6 : Int64) (k : Nat), x1.toInt = f → x2.toInt = t → x3.toInt = p → x4.toInt = gSm (tCh (cWy (vw h 48 15)) (vw h 48 15) p) f t k → x6.toInt = cWy (vw h 48 15) k → x8.toInt = (k : Int) → (k : Int) ≤ vw h 48 15 + 1 → Pt n X zM68 9 [some (.ref 48), some (.int x1), some (.int x2), some (.int x3), some (.long x4), none, some (.long x6), none, some (.int x8)] [] h (qJ (fun y h' => h' = h ∧ y = gSm (tCh (cWy (vw h 48 15)) (vw h 48 15) p) f t (vw h 48 15 + 1).toNat)) := by
  intro n
  induction n with
  | zero => intros; exact pt_z
  | succ n ih =>
    intro x1 x2 x3 x8 x4 x6 k h1 h2 h3 h4 h6 h8 hk
    have e : gSm (tCh (cWy (vw h 48 15)) (vw h 48 15) p) f t (k + 1) = if f ≤ (k : Int) ∧ (k : Int) ≤ t then w64 (gSm (tCh (cWy (vw h 48 15)) (vw h 48 15) p) f t k + tCh (cWy (vw h 48 15)) (vw h 48 15) p k) else gSm (tCh (cWy (vw h 48 15)) (vw h 48 15) p) f t k := rfl
    have wk : (k : Int) ≤ 8 → w32 ((k : Int) + 1) = (k : Int) + 1 := fun _ => w32_id (by omega) (by omega)
    refine d68_9 S h1 h2 h3 h4 h6 h8 ⟨fun z => ⟨rfl, ?_⟩, fun z => ⟨fun z2 w6 w8 g6 g8 => ?_, fun z2 => ⟨(by show (k : Int) ≤ 1000; omega), (by show w32 (vw h 48 15 - (k : Int)) ≤ 1000; rw [w32_id (by omega) (by omega)]; omega), fun w4 w6 w8 g4 g6 g8 => ?_⟩⟩⟩
    · rw [show (vw h 48 15 + 1).toNat = k by omega]
    · replace g8 := w_1 g8 (by omega) (by omega)
      refine ih x1 x2 x3 w8 x4 w6 (k + 1) h1 h2 h3 ?_ g6 (by omega) (by omega)
      rw [e, if_neg z2]
      exact h4
    · replace g8 := w_1 g8 (by omega) (by omega)
      refine ih x1 x2 x3 w8 w4 w6 (k + 1) h1 h2 h3 ?_ g6 (by omega) (by omega)
      rw [e, if_pos z2, g4]
      unfold tCh
      rw [Int.toNat_natCast]
theorem c_68 {n : Nat} {X : aX} {h : aH} {x1 x2 x3 : Int32} {a1 a2 a3 : Int} (S : wS h) (z1 : x1.toInt = a1) (z2 : x2.toInt = a2) (z3 : x3.toInt = a3) (hn : 0 ≤ vw h 48 15 ∧ vw h 48 15 ≤ 8) : Pt n X zM68 0 [some (.ref 48), some (.int x1), some (.int x2), some (.int x3), none, none, none, none, none] [] h (qJ (fun y h' => h' = h ∧ y = gSm (tCh (cWy (vw h 48 15)) (vw h 48 15) a3) a1 a2 (vw h 48 15 + 1).toNat)) :=
  pt_d (d68_0 S z1 z2 z3 (fun w4 w6 w8 g4 g6 g8 => l_68 S hn n x1 x2 x3 w8 w4 w6 0 z1 z2 z3 g4 g6 g8 (by omega)))

theorem l_297 {X : aX} {h : aH} {N a b p : Int} (S : wS h) (hN : 0 ≤ N ∧ N ≤ 8) (ha : 0 ≤ a) (hb : b ≤ N) : ∀ n : Nat, (∀ (x0 x1 x2 x3 x6 : Int32) (x4 : Int64) (u7 u9 : Option Value) (k : Nat), x0.toInt = N → x1.toInt = a → x2.toInt = b → x3.toInt = p → x4.toInt = gSm (tCh (mWy N) N p) a b k → x6.toInt = (k : Int) → a ≤ (k : Int) → (k : Int) ≤ b + 1 → Pt n X zM297 6 [some (.int x0), some (.int x1), some (.int x2), some (.int x3), some (.long x4), none, some (.int x6), u7, none, u9] [] h (qJ (fun y h' => h' = h ∧ y = gSm (tCh (mWy N) N p) a b (b + 1).toNat))) ∧
    (∀ (x0 x1 x2 x3 x6 x9 : Int32) (x4 x7 : Int64) (k j : Nat), x0.toInt = N → x1.toInt = a → x2.toInt = b → x3.toInt = p → x4.toInt = gSm (tCh (mWy N) N p) a b k → x6.toInt = (k : Int) → a ≤ (k : Int) → (k : Int) ≤ b → x7.toInt = mWi (w32 (N - (k : Nat))) j → x9.toInt = (j : Int) + 1 → j ≤ k → Pt n X zM297 18 [some (.int x0), some (.int x1), some (.int x2), some (.int x3), some (.long x4), none, some (.int x6), some (.long x7), none, some (.int x9)] [] h (qJ (fun y h' => h' = h ∧ y = gSm (tCh (mWy N) N p) a b (b + 1).toNat))) := by
  intro n
  induction n with
  | zero => exact ⟨by intros; exact pt_z, by intros; exact pt_z⟩
  | succ n ih =>
    refine ⟨fun x0 x1 x2 x3 x6 x4 u7 u9 k h0 h1 h2 h3 h4 h6 ka kb => ?_, fun x0 x1 x2 x3 x6 x9 x4 x7 k j h0 h1 h2 h3 h4 h6 ka kb h7 h9 hj => ?_⟩
    · refine d297_6 S h0 h1 h2 h3 h4 h6 ⟨fun e => ⟨rfl, ?_⟩, fun e w7 w9 g7 g9 => ?_⟩
      · rw [show (b + 1).toNat = k by omega]
      · exact ih.2 x0 x1 x2 x3 x6 w9 x4 w7 k 0 h0 h1 h2 h3 h4 h6 ka e g7 g9 (Nat.zero_le _)
    · have e : gSm (tCh (mWy N) N p) a b (k + 1) = if a ≤ (k : Int) ∧ (k : Int) ≤ b then w64 (gSm (tCh (mWy N) N p) a b k + tCh (mWy N) N p k) else gSm (tCh (mWy N) N p) a b k := rfl
      refine d297_18 S h0 h1 h2 h3 h4 h6 h7 h9 ⟨fun z => ⟨(by show (k : Int) ≤ 1000; omega), (by show w32 (N - (k : Int)) ≤ 1000; rw [w32_id (by omega) (by omega)]; omega), fun w4 w6 u7 u9 g4 g6 => ?_⟩, fun z w7 w9 g7 g9 => ?_⟩
      · replace g6 := w_1 g6 (by omega) (by omega)
        refine ih.1 x0 x1 x2 x3 w6 w4 u7 u9 (k + 1) h0 h1 h2 h3 ?_ (by omega) (by omega) (by omega)
        have ej : j = k := by omega
        rw [e, if_pos ⟨ka, kb⟩, g4, ej]
        unfold tCh mWy
        rw [Int.toNat_natCast]
      · replace g9 := w_1 g9 (by omega) (by omega)
        exact ih.2 x0 x1 x2 x3 x6 w9 x4 w7 k (j + 1) h0 h1 h2 h3 h4 h6 ka kb g7 (by omega) (by omega)
theorem c_297 {n : Nat} {X : aX} {h : aH} {x0 x1 x2 x3 : Int32} {a0 a1 a2 a3 : Int} (S : wS h) (z0 : x0.toInt = a0) (z1 : x1.toInt = a1) (z2 : x2.toInt = a2) (z3 : x3.toInt = a3) (hp : (0 ≤ a0 ∧ a0 ≤ 8) ∧ 0 ≤ a1 ∧ a1 ≤ a2 + 1 ∧ a2 ≤ a0) : Pt n X zM297 0 [some (.int x0), some (.int x1), some (.int x2), some (.int x3), none, none, none, none, none, none] [] h (qJ (fun y h' => h' = h ∧ y = gSm (tCh (mWy a0) a0 a3) a1 a2 (a2 + 1).toNat)) :=
  pt_d (d297_0 S z0 z1 z2 z3 (fun w4 u7 u9 g4 => (l_297 S hp.1 hp.2.1 hp.2.2.2 n).1 x0 x1 x2 x3 x1 w4 u7 u9 a1.toNat z0 z1 z2 z3 (by rw [g4, gSm_low _ (by omega)]) (by omega) (by omega) (by omega)))


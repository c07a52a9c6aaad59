-- ===== mix: both sides =====
theorem tl_58 : tkL 58 0 6 = true := by decide +kernel
theorem gx184_0 : aF 0 zM184.2.2.2.2.2.2.2 = some (0, (.iload_n 1), 1, 0, 0) := by decide +kernel
theorem gx184_1 : aF 1 zM184.2.2.2.2.2.2.2 = some (1, (.iconst 0), 1, 0, 0) := by decide +kernel
theorem gx184_2 : aF 2 zM184.2.2.2.2.2.2.2 = some (2, (.aload_n 0), 1, 0, 0) := by decide +kernel
theorem gx184_3 : aF 3 zM184.2.2.2.2.2.2.2 = some (3, (.getfield 60), 3, 11, 6) := by decide +kernel
theorem gx184_6 : aF 6 zM184.2.2.2.2.2.2.2 = some (6, (.getfield 336), 3, 4, 4) := by decide +kernel
theorem gx184_9 : aF 9 zM184.2.2.2.2.2.2.2 = some (9, (.iconst 1), 1, 0, 0) := by decide +kernel
theorem gx184_10 : aF 10 zM184.2.2.2.2.2.2.2 = some (10, .isub, 1, 0, 0) := by decide +kernel
theorem gx184_11 : aF 11 zM184.2.2.2.2.2.2.2 = some (11, (.invokestatic 85), 3, 137, 0) := by decide +kernel
theorem gx184_14 : aF 14 zM184.2.2.2.2.2.2.2 = some (14, (.ifCond .eq 15), 3, 29, 0) := by decide +kernel
theorem gx184_29 : aF 29 zM184.2.2.2.2.2.2.2 = some (29, (.iconst (-1)), 1, 0, 0) := by decide +kernel
theorem gx184_30 : aF 30 zM184.2.2.2.2.2.2.2 = some (30, .ireturn, 1, 0, 0) := by decide +kernel
theorem gx184_17 : aF 17 zM184.2.2.2.2.2.2.2 = some (17, (.aload_n 0), 1, 0, 0) := by decide +kernel
theorem gx184_18 : aF 18 zM184.2.2.2.2.2.2.2 = some (18, (.getfield 60), 3, 11, 6) := by decide +kernel
theorem gx184_21 : aF 21 zM184.2.2.2.2.2.2.2 = some (21, (.getfield 339), 3, 4, 3) := by decide +kernel
theorem gx184_24 : aF 24 zM184.2.2.2.2.2.2.2 = some (24, (.iload_n 1), 1, 0, 0) := by decide +kernel
theorem gx184_25 : aF 25 zM184.2.2.2.2.2.2.2 = some (25, .iaload, 1, 0, 0) := by decide +kernel
theorem gx184_26 : aF 26 zM184.2.2.2.2.2.2.2 = some (26, (.goto 4), 3, 30, 0) := by decide +kernel
theorem gx303_0 : aF 0 zM303.2.2.2.2.2.2.2 = some (0, (.iload_n 1), 1, 0, 0) := by decide +kernel
theorem gx303_1 : aF 1 zM303.2.2.2.2.2.2.2 = some (1, (.iconst 0), 1, 0, 0) := by decide +kernel
theorem gx303_2 : aF 2 zM303.2.2.2.2.2.2.2 = some (2, (.aload_n 0), 1, 0, 0) := by decide +kernel
theorem gx303_3 : aF 3 zM303.2.2.2.2.2.2.2 = some (3, (.getfield 237), 3, 12, 93) := by decide +kernel
theorem gx303_6 : aF 6 zM303.2.2.2.2.2.2.2 = some (6, (.iconst 1), 1, 0, 0) := by decide +kernel
theorem gx303_7 : aF 7 zM303.2.2.2.2.2.2.2 = some (7, .isub, 1, 0, 0) := by decide +kernel
theorem gx303_8 : aF 8 zM303.2.2.2.2.2.2.2 = some (8, (.invokestatic 258), 3, 196, 0) := by decide +kernel
theorem gx303_11 : aF 11 zM303.2.2.2.2.2.2.2 = some (11, (.ifCond .eq 12), 3, 23, 0) := by decide +kernel
theorem gx303_23 : aF 23 zM303.2.2.2.2.2.2.2 = some (23, (.iconst (-1)), 1, 0, 0) := by decide +kernel
theorem gx303_24 : aF 24 zM303.2.2.2.2.2.2.2 = some (24, .ireturn, 1, 0, 0) := by decide +kernel
theorem gx303_14 : aF 14 zM303.2.2.2.2.2.2.2 = some (14, (.aload_n 0), 1, 0, 0) := by decide +kernel
theorem gx303_15 : aF 15 zM303.2.2.2.2.2.2.2 = some (15, (.getfield 231), 3, 12, 91) := by decide +kernel
theorem gx303_18 : aF 18 zM303.2.2.2.2.2.2.2 = some (18, (.iload_n 1), 1, 0, 0) := by decide +kernel
theorem gx303_19 : aF 19 zM303.2.2.2.2.2.2.2 = some (19, .iaload, 1, 0, 0) := by decide +kernel
theorem gx303_20 : aF 20 zM303.2.2.2.2.2.2.2 = some (20, (.goto 4), 3, 24, 0) := by decide +kernel
theorem d184_0 {n : Nat} {X : aX} {h : aH} {P : Int → aH → Prop} {x1 : Int32} {a1 : Int} (S : wS h) (z1 : x1.toInt = a1) (H : ((¬ (0 ≤ a1 ∧ a1 ≤ (w32 ((vw h 55 4) - 1))) → P (-1) h) ∧ ((0 ≤ a1 ∧ a1 ≤ (w32 ((vw h 55 4) - 1))) → (0 ≤ a1 → a1 < 6 → P (vw h 58 a1) h)))) : Pt (n + 1) X zM184 0 [some (.ref 0), some (.int x1)] [] h (qI P) := by
  refine pt_1 (fun n d => r_iloadn gx184_0 rfl) ?_
  refine pt_d (pt_iconst gx184_1 (fun v1 h1 => ?_))
  refine pt_d (pt_1 (fun n d => r_aloadn gx184_2 rfl) ?_)
  refine pt_d (pt_getR gx184_3 S tr_0_6 ?_)
  refine pt_d (pt_getI (B := 4) gx184_6 S (fun v3 h3 => ?_))
  refine pt_d (pt_iconst gx184_9 (fun v4 h4 => ?_))
  refine pt_d (pt_isub gx184_10 h3 h4 (fun v5 h5 => ?_))
  refine pt_d (pt_stat (as := [.int x1, .int v1, .int v5]) (r := []) gx184_11 rfl (show zmt[137]? = some zM137 from rfl) rfl rfl rfl rfl (c_137 S z1 h1 h5) (kqP (fun v6 h6 => ?_)))
  show Pt _ _ _ 14 _ [.int v6] _ _
  refine pt_d (pt_ifB_eq gx184_14 h6 (fun e7 => ?_) (fun e7 => ?_))
  · have H := H.1 e7
    refine pt_d (pt_iconst gx184_29 (fun v8 h8 => ?_))
    exact pt_d (pt_iret gx184_30 ⟨_, rfl, by rw [h8]; exact H⟩)
  · have H := H.2 e7
    refine pt_d (pt_1 (fun n d => r_aloadn gx184_17 rfl) ?_)
    refine pt_d (pt_getR gx184_18 S tr_0_6 ?_)
    refine pt_d (pt_getR gx184_21 S tr_55_3 ?_)
    refine pt_d (pt_1 (fun n d => r_iloadn gx184_24 rfl) ?_)
    refine pt_d (pt_iald (N' := 6) gx184_25 S tl_58 z1 (fun v11 p11 q11 h11 => ?_))
    have H := H p11 q11
    refine pt_d (pt_1 (fun n d => r_goto gx184_26) ?_)
    exact pt_d (pt_iret gx184_30 ⟨_, rfl, by rw [h11]; exact H⟩)
theorem d303_0 {n : Nat} {X : aX} {h : aH} {P : Int → aH → Prop} {x1 : Int32} {a1 : Int} (S : wS h) (z1 : x1.toInt = a1) (H : ((¬ (0 ≤ a1 ∧ a1 ≤ (w32 ((vw h 72 93) - 1))) → P (-1) h) ∧ ((0 ≤ a1 ∧ a1 ≤ (w32 ((vw h 72 93) - 1))) → (0 ≤ a1 → a1 < 6 → P (vw h 139 a1) h)))) : Pt (n + 1) X zM303 0 [some (.ref 72), some (.int x1)] [] h (qI P) := by
  refine pt_1 (fun n d => r_iloadn gx303_0 rfl) ?_
  refine pt_d (pt_iconst gx303_1 (fun v1 h1 => ?_))
  refine pt_d (pt_1 (fun n d => r_aloadn gx303_2 rfl) ?_)
  refine pt_d (pt_getI (B := 93) gx303_3 S (fun v2 h2 => ?_))
  refine pt_d (pt_iconst gx303_6 (fun v3 h3 => ?_))
  refine pt_d (pt_isub gx303_7 h2 h3 (fun v4 h4 => ?_))
  refine pt_d (pt_stat (as := [.int x1, .int v1, .int v4]) (r := []) gx303_8 rfl (show zmt[196]? = some zM196 from rfl) rfl rfl rfl rfl (c_196 S z1 h1 h4) (kqP (fun v5 h5 => ?_)))
  show Pt _ _ _ 11 _ [.int v5] _ _
  refine pt_d (pt_ifB_eq gx303_11 h5 (fun e6 => ?_) (fun e6 => ?_))
  · have H := H.1 e6
    refine pt_d (pt_iconst gx303_23 (fun v7 h7 => ?_))
    exact pt_d (pt_iret gx303_24 ⟨_, rfl, by rw [h7]; exact H⟩)
  · have H := H.2 e6
    refine pt_d (pt_1 (fun n d => r_aloadn gx303_14 rfl) ?_)
    refine pt_d (pt_getR gx303_15 S tr_72_91 ?_)
    refine pt_d (pt_1 (fun n d => r_iloadn gx303_18 rfl) ?_)
    refine pt_d (pt_iald (N' := 6) gx303_19 S tl_139 z1 (fun v9 p9 q9 h9 => ?_))
    have H := H p9 q9
    refine pt_d (pt_1 (fun n d => r_goto gx303_20) ?_)
    exact pt_d (pt_iret gx303_24 ⟨_, rfl, by rw [h9]; exact H⟩)
def R184 (V : vS) (i y : Int) : Prop := (¬ (0 ≤ i ∧ i ≤ w32 (V 55 4 - 1)) ∧ y = -1) ∨ ((0 ≤ i ∧ i ≤ w32 (V 55 4 - 1)) ∧ y = V 58 i)
def R303 (V : vS) (i y : Int) : Prop := (¬ (0 ≤ i ∧ i ≤ w32 (V 72 93 - 1)) ∧ y = -1) ∨ ((0 ≤ i ∧ i ≤ w32 (V 72 93 - 1)) ∧ y = V 139 i)
theorem c_184 {n : Nat} {X : aX} {h : aH} {x1 : Int32} {a1 : Int} (S : wS h) (z1 : x1.toInt = a1) : Pt n X zM184 0 [some (.ref 0), some (.int x1)] [] h (qI (fun y h' => h' = h ∧ R184 (vw h) a1 y)) := by
  refine pt_d (d184_0 S z1 ⟨fun e => ⟨rfl, Or.inl ⟨e, rfl⟩⟩, fun e _ _ => ⟨rfl, Or.inr ⟨e, rfl⟩⟩⟩)
theorem c_303 {n : Nat} {X : aX} {h : aH} {x1 : Int32} {a1 : Int} (S : wS h) (z1 : x1.toInt = a1) : Pt n X zM303 0 [some (.ref 72), some (.int x1)] [] h (qI (fun y h' => h' = h ∧ R303 (vw h) a1 y)) := by
  refine pt_d (d303_0 S z1 ⟨fun e => ⟨rfl, Or.inl ⟨e, rfl⟩⟩, fun e _ _ => ⟨rfl, Or.inr ⟨e, rfl⟩⟩⟩)
def JMix (V : vS) : Prop := (V 55 4 = V 72 93 ∨ (V 55 4 = 0 ∧ V 72 93 = -1)) ∧ 0 ≤ V 55 4 ∧ V 55 4 ≤ 6 ∧ ∀ j, 0 ≤ j → j < V 55 4 → V 58 j = V 139 j
def JPl1 (V : vS) : Prop := ∀ j, 0 ≤ j → j < V 55 1 → 1 ≤ V 56 j ∧ V 56 j ≤ 576
def JNm (V : vS) : Prop := ∀ t, 0 ≤ t → t < 8 → V 59 t = t
def JWo (V : vS) : Prop := ∀ c, 0 ≤ c → c < 8 → 0 ≤ V 57 c ∧ V 57 c ≤ 99
def LMix : List (Nat × Option Nat) := [(55, some 4), (72, some 93), (58, none), (139, none)]
def LPl1 : List (Nat × Option Nat) := [(55, some 1), (56, none)]
def LNm : List (Nat × Option Nat) := [(59, none)]
def LWo : List (Nat × Option Nat) := [(57, none)]
theorem JMix_dG {W : List (Nat × Nat)} {σ σ1 : List Nat} {h h1 : aH} (J : JMix (vw h)) (I : dI σ h) (G : dG W σ h σ1 h1) (k : frL W LMix = true) : JMix (vw h1) := by
  obtain ⟨a1, a2, a3, a4, -⟩ := ag_dG I.1 G _ k
  have a1 : vw h1 55 4 = vw h 55 4 := a1
  have a2 : vw h1 72 93 = vw h 72 93 := a2
  unfold JMix
  simp only [a1, a2, a3, a4]
  exact J
theorem JPl1_dG {W : List (Nat × Nat)} {σ σ1 : List Nat} {h h1 : aH} (J : JPl1 (vw h)) (I : dI σ h) (G : dG W σ h σ1 h1) (k : frL W LPl1 = true) : JPl1 (vw h1) := by
  obtain ⟨a1, a2, -⟩ := ag_dG I.1 G _ k
  have a1 : vw h1 55 1 = vw h 55 1 := a1
  unfold JPl1
  simp only [a1, a2]
  exact J
theorem JNm_dG {W : List (Nat × Nat)} {σ σ1 : List Nat} {h h1 : aH} (J : JNm (vw h)) (I : dI σ h) (G : dG W σ h σ1 h1) (k : frL W LNm = true) : JNm (vw h1) := by
  obtain ⟨a1, -⟩ := ag_dG I.1 G _ k
  intro t t0 t1
  rw [a1]
  exact J t t0 t1
theorem JWo_dG {W : List (Nat × Nat)} {σ σ1 : List Nat} {h h1 : aH} (J : JWo (vw h)) (I : dI σ h) (G : dG W σ h σ1 h1) (k : frL W LWo = true) : JWo (vw h1) := by
  obtain ⟨a1, -⟩ := ag_dG I.1 G _ k
  intro t t0 t1
  rw [a1]
  exact J t t0 t1
theorem zJMix0 : JMix (vw zH0) := by
  have e1 : vw zH0 55 4 = 0 := vzf (i := 4) (x := 0) zh55 rfl
  have e2 : vw zH0 72 93 = -1 := (vzf (i := 93) (x := -1) zh72 rfl).trans (by decide)
  exact ⟨Or.inr ⟨e1, e2⟩, by rw [e1]; decide, by rw [e1]; decide, fun j j0 j1 => by rw [e1] at j1; omega⟩
theorem zJPl10 : JPl1 (vw zH0) := by
  have e1 : vw zH0 55 1 = 0 := vzf (i := 1) (x := 0) zh55 rfl
  exact fun j j0 j1 => by rw [e1] at j1; omega
theorem zJNm0 : JNm (vw zH0) := by
  intro t t0 t1
  rw [vw_a zh59 t0]
  show (Int32.ofNat t.toNat).toInt = t
  rw [Int32.toInt_ofNat_of_lt (by omega)]
  omega
theorem zJWo0 : JWo (vw zH0) := by
  intro t t0 t1
  rw [vz zh57]
  decide
theorem jwo_38 {h h2 : aH} {x y r1 : Int32} {g g1 : Nat → Int32} (J : JWo (vw h)) (c1 : h.1[57]? = some (.inl (0, 8, .inl g))) (d4 : h2.1[57]? = some (.inl (0, 8, .inl g1))) (k1 : clf 8 99 x y g r1 g1) : JWo (vw h2) := by
  intro j h0 h1
  have o := J j h0 h1
  rw [vw_a c1 h0] at o
  rw [vw_a d4 h0]
  have o : 0 ≤ (g j.toNat).toInt ∧ (g j.toNat).toInt ≤ 99 := o
  show 0 ≤ (g1 j.toNat).toInt ∧ (g1 j.toNat).toInt ≤ 99
  rcases k1 with ⟨a, -, rfl⟩ | ⟨-, -, rfl⟩
  · unfold upd
    split
    · exact ⟨a.2.2.1, a.2.2.2⟩
    · exact o
  · exact o
theorem jpl_37 {V V1 V2 : vS} {s r1 r2 : Int} (L : JPlot V) (A : JPl1 V) (c : R181 V s r1 V1) (m : R299 V1 s r2 V2) : JPl1 V2 := by
  have f : ∀ j, V2 56 j = V1 56 j := by
    intro j
    rcases m with ⟨-, -, rfl⟩ | ⟨-, -, -, rfl⟩ | ⟨-, -, -, rfl⟩
    · rfl
    · rfl
    · rw [up_c (by decide), up_c (by decide)]
  have f1 : V2 55 1 = V1 55 1 := by
    rcases m with ⟨-, -, rfl⟩ | ⟨-, -, -, rfl⟩ | ⟨-, -, -, rfl⟩
    · rfl
    · rfl
    · rw [up_c (by decide), up_c (by decide)]
  intro j j0 j1
  rw [f]
  rw [f1] at j1
  rcases c with ⟨-, -, rfl⟩ | ⟨-, -, -, rfl⟩ | ⟨a, a1, ⟨a2, -, -⟩ | ⟨a2, a3, hr, rfl⟩⟩
  · exact A j j0 j1
  · exact A j j0 j1
  · omega
  · rw [up_s, w32_id (by omega) (by omega)] at j1
    rw [up_c (by decide), up_p]
    by_cases z : j = V 55 1
    · rw [if_pos z]; exact a
    · rw [if_neg z]; exact A j j0 (by omega)
-- a way's numbers speak of the areas and the crops alone
theorem loQ_a {ar ar' f : Int → Int} (c : Int) : ∀ k : Nat, egQ ar ar' k → loQ ar f k c = loQ ar' f k c
  | 0, _ => rfl
  | k + 1, e => by
    show loQ ar f k c + odQ (f (k : Int)) (ar (k : Int)) c = loQ ar' f k c + odQ (f (k : Int)) (ar' (k : Int)) c
    rw [loQ_a c k (egQ_m e (Nat.le_succ k)), e (k : Int) (by omega) (by omega)]
theorem smQ_a {ar ar' : Int → Int} : ∀ k : Nat, egQ ar ar' k → smQ ar k = smQ ar' k
  | 0, _ => rfl
  | k + 1, e => by
    show smQ ar k + ar (k : Int) = smQ ar' k + ar' (k : Int)
    rw [smQ_a k (egQ_m e (Nat.le_succ k)), e (k : Int) (by omega) (by omega)]
theorem vlQ_a {ar ar' wo wo' f : Int → Int} (w : ∀ c, 0 ≤ c → c < 8 → wo c = wo' c) : ∀ k : Nat, egQ ar ar' k → rgQ f k → vlQ ar wo f k = vlQ ar' wo' f k
  | 0, _, _ => rfl
  | k + 1, e, G => by
    have g := G (k : Int) (by omega) (by omega)
    show vlQ ar wo f k + ar (k : Int) * wo (f (k : Int)) = vlQ ar' wo' f k + ar' (k : Int) * wo' (f (k : Int))
    rw [vlQ_a w k (egQ_m e (Nat.le_succ k)) (rgQ_m G (Nat.le_succ k)), e (k : Int) (by omega) (by omega), w _ g.1 g.2]
theorem feQ_a {ar ar' f : Int → Int} {N : Nat} {R q : Int} (e : egQ ar ar' N) (F : feQ ar N R q f) : feQ ar' N R q f := by
  refine ⟨F.1, fun c a b => by rw [← loQ_a c N e]; exact F.2.1 c a b, ?_⟩
  rw [← show usQ ar f N = usQ ar' f N from sQ_cg (fun c _ _ => congrArg ucQ (loQ_a c N e))]
  exact F.2.2
theorem rsQ_a {ar ar' wo wo' rk : Int → Int} {N : Nat} {R q m m' : Int} {b b' : Int → Int} (e : egQ ar ar' N) (w : ∀ c, 0 ≤ c → c < 8 → wo c = wo' c) (r : rsQ ar wo rk N (feQ ar N R q) m b m' b') : rsQ ar' wo' rk N (feQ ar' N R q) m b m' b' := by
  have v : ∀ f, feQ ar N R q f → vlQ ar wo f N = vlQ ar' wo' f N := fun f F => vlQ_a w N e F.1
  have back : ∀ f, feQ ar' N R q f → feQ ar N R q f := fun f F => feQ_a (egQ_s N e) F
  rcases r with ⟨e1, g1, u1⟩ | ⟨l1, ⟨f1, a1, v1, w1⟩, u1⟩
  · exact Or.inl ⟨e1, g1, fun f F => by rw [← v f (back f F)]; exact u1 f (back f F)⟩
  · refine Or.inr ⟨l1, ⟨f1, feQ_a e a1, by rw [← v f1 a1]; exact v1, w1⟩, fun f F => ?_⟩
    rw [← v f (back f F)]
    exact u1 f (back f F)
theorem jx_39k {V V1 V2 : vS} {a b r1 r2 : Int} (L : JPlot V) (M : JMix V) (A : JPl1 V) (Nm : JNm V) (Wo : JWo V) (wq : ∀ j, 0 ≤ j → j < ((8 : Nat) : Int) → V 57 j = V 137 j) (f87 : V1 72 87 = V 72 87) (f93 : V1 72 93 = V 72 93) (f136 : ∀ j, V1 136 j = V 136 j) (f137 : ∀ j, V1 137 j = V 137 j) (f139 : ∀ j, V1 139 j = V 139 j) (g1 : V2 55 1 = V1 55 1) (g4 : V2 55 4 = V1 55 4) (g58 : ∀ j, V2 58 j = V1 58 j) (c : R183k V a b r1 V1) (m : R302k V1 a b r2 V2) : (JPlot V2 ∧ JMix V2 ∧ JPl1 V2) ∧ r1 = r2 := by
  have L0 := L
  obtain ⟨l1, l2, l3, l4⟩ := L0
  have M0 := M
  obtain ⟨k1, k2, k3, k4⟩ := M0
  rcases c with ⟨c, rfl, rfl⟩ | ⟨c, c1, C⟩
  · rcases m with ⟨m, rfl, rfl⟩ | ⟨q, -⟩
    · exact ⟨⟨L, M, A⟩, rfl⟩
    · unfold bad183 at c; unfold bad302 at q; omega
  · rcases m with ⟨q, -⟩ | ⟨-, m1, D⟩
    · unfold bad183 at c; unfold bad302 at q; omega
    · have ab : (1 ≤ a ∧ a ≤ 100) ∧ 1 ≤ b ∧ b ≤ 3 := by unfold bad183 at c; omega
      have JP2 : JPlot V2 := ⟨by omega, by omega, by omega, fun j j0 j1 => by omega⟩
      have JA2 : JPl1 V2 := fun j j0 j1 => by omega
      have eN : (((V 55 1).toNat : Nat) : Int) = V 55 1 := Int.toNat_of_nonneg l2
      generalize (V 55 1).toNat = N at eN
      have PMv : PM V N := ⟨eN.symm, by omega, fun j j0 j1 => A j j0 (by omega), Wo, Nm⟩
      have e136 : V1 136 = V 136 := funext f136
      have e137 : V1 137 = V 137 := funext f137
      have e139 : V1 139 = V 139 := funext f139
      have e58 : V2 58 = V1 58 := funext g58
      have ea : egQ (V 56) (V 136) N := fun j j0 j1 => l4 j j0 (by omega)
      have wq : ∀ c, 0 ≤ c → c < 8 → V 57 c = V 137 c := fun c c0 c1 => wq c c0 (by omega)
      have PNv : PN V1 N := by
        unfold PN
        rw [f87, e136, e137]
        exact ⟨by omega, by omega, fun j j0 j1 => by rw [← ea j j0 j1]; exact A j j0 (by omega), fun c c0 c1 => by rw [← wq c c0 c1]; exact Wo c c0 c1⟩
      obtain ⟨R, r0, r9, r2', r3, C⟩ := C N PMv ab.1.1 ab.1.2 ab.2.1 ab.2.2
      rw [smQ_a N ea] at r2' r3
      obtain ⟨mm, D1, D2, D3⟩ := D N R PNv r0 r9 (by rw [e136]; exact r2') (by rw [e136]; exact r3) ab.1.1 ab.1.2
      rw [e136, e137, e139] at D1
      rw [e139] at D2
      rcases C with ⟨no, rfl, C2, C3⟩ | ⟨y0, C2, C3⟩
      · have no2 : ∀ f, ¬ feQ (V 136) N R b f := fun f F => no f (feQ_a (egQ_s N ea) F)
        rcases D1 with ⟨d1, d2, -⟩ | ⟨-, ⟨f, F, -⟩, -⟩
        · rcases D3 with ⟨q, -⟩ | ⟨-, rfl, q⟩
          · omega
          · refine ⟨⟨JP2, ⟨?_, by omega, by omega, fun j j0 j1 => ?_⟩, JA2⟩, rfl⟩
            · omega
            · rw [g58, C3]
              by_cases z : j < (N : Int)
              · rw [d2 j j0 z]; exact k4 j j0 (by omega)
              · rw [D2 j (by omega)]; exact k4 j j0 (by omega)
        · exact absurd F (no2 f)
      · have u := rsQ_uni (fun f F => F.1) (rsQ_a ea wq C3) D1
        rcases D3 with ⟨q, rfl, q2⟩ | ⟨q, -⟩
        · refine ⟨⟨JP2, ⟨Or.inl (by omega), by omega, by omega, fun j j0 j1 => ?_⟩, JA2⟩, u.1⟩
          rw [g58]
          exact u.2 (by omega) j j0 (by omega)
        · omega
theorem jx_40 {V : vS} {i r1 r2 : Int} (M : JMix V) (c : R184 V i r1) (m : R303 V i r2) : r1 = r2 := by
  obtain ⟨k1, k2, k3, k4⟩ := M
  have w1 : w32 (V 55 4 - 1) = V 55 4 - 1 := w32_id (by omega) (by omega)
  have w2 : w32 (V 72 93 - 1) = V 72 93 - 1 := w32_id (by omega) (by omega)
  unfold R184 at c
  unfold R303 at m
  rw [w1] at c
  rw [w2] at m
  rcases c with ⟨c, rfl⟩ | ⟨c, rfl⟩
  · rcases m with ⟨m, rfl⟩ | ⟨m, -⟩
    · rfl
    · omega
  · rcases m with ⟨m, -⟩ | ⟨m, rfl⟩
    · omega
    · exact k4 i c.1 (by omega)


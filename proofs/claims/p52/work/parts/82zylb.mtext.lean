theorem d250_0 {n : Nat} {X : aX} {h : aH} {P : Int → aH → Prop} {x1 x2 : Int32} {a1 a2 : Int} (S : wS h) (z1 : x1.toInt = a1) (z2 : x2.toInt = a2) (H : (((1 ≤ a1 ∧ a1 ≤ 4) → ((w32 ((vw h 72 54) + a1) ≤ 160 → (∀ (w3 : Int32), w3.toInt = 0 → Pt n X zM250 28 [some (.ref 72), some (.int x1), some (.int x2), some (.int w3)] [] h (qI P))) ∧ (160 < w32 ((vw h 72 54) + a1) → P (-3) h))) ∧ (¬ (1 ≤ a1 ∧ a1 ≤ 4) → P (-1) h))) : Pt (n + 1) X zM250 0 [some (.ref 72), some (.int x1), some (.int x2), none] [] h (qI P) := by
  refine pt_1 (fun n d => r_iloadn gx250_0 rfl) ?_
  refine pt_d (pt_iconst gx250_1 (fun v1 h1 => ?_))
  refine pt_d (pt_iconst gx250_2 (fun v2 h2 => ?_))
  refine pt_d (pt_stat (as := [.int x1, .int v1, .int v2]) (r := []) gx250_3 rfl (show zmt[196]? = some zM196 from rfl) rfl rfl rfl rfl (c_196 S z1 h1 h2) (kqP (fun v3 h3 => ?_)))
  show Pt _ _ _ 6 _ [.int v3] _ _
  refine pt_d (pt_ifB_ne gx250_6 h3 (fun e4 => ?_) (fun e4 => ?_))
  · have H := H.1 e4
    refine pt_d (pt_1 (fun n d => r_aloadn gx250_11 rfl) ?_)
    refine pt_d (pt_getI (B := 54) gx250_12 S (fun v5 h5 => ?_))
    refine pt_d (pt_1 (fun n d => r_iloadn gx250_15 rfl) ?_)
    refine pt_d (pt_iadd gx250_16 h5 z1 (fun v6 h6 => ?_))
    refine pt_d (pt_sipush gx250_17 (fun v7 h7 => ?_))
    refine pt_d (pt_icmp_le gx250_20 h6 h7 (fun e8 => ?_) (fun e8 => ?_))
    · have H := H.1 e8
      refine pt_d (pt_iconst gx250_26 (fun v9 h9 => ?_))
      refine pt_d (pt_1 (fun n d => r_istoren (L' := [some (.ref 72), some (.int x1), some (.int x2), some (.int v9)]) gx250_27 rfl rfl) ?_)
      exact H v9 h9
    · have H := H.2 e8
      refine pt_d (pt_bipush gx250_23 (fun v10 h10 => ?_))
      exact pt_d (pt_iret gx250_25 ⟨_, rfl, by rw [h10]; exact H⟩)
  · have H := H.2 e4
    refine pt_d (pt_iconst gx250_9 (fun v11 h11 => ?_))
    exact pt_d (pt_iret gx250_10 ⟨_, rfl, by rw [h11]; exact H⟩)
theorem d250_28 {n : Nat} {X : aX} {h : aH} {P : Int → aH → Prop} {x1 x2 x3 : Int32} {a1 a2 a3 : Int} (S : wS h) (z1 : x1.toInt = a1) (z2 : x2.toInt = a2) (z3 : x3.toInt = a3) (H : ((a1 ≤ a3 → P (vw h 72 54) h) ∧ (a3 < a1 → (0 ≤ vw h 72 54 → vw h 72 54 < 160 → ∀ h_13 : aH, wS h_13 → vw h_13 = up (up (vw h) 115 (vw h 72 54) (w8 (w8 (bShr a2 (w32 (8 * a3)))))) 72 54 (w32 ((vw h 72 54) + 1)) → (∀ (w3 : Int32), w3.toInt = w32 (a3 + 1) → Pt n X zM250 28 [some (.ref 72), some (.int x1), some (.int x2), some (.int w3)] [] h_13 (qI P)))))) : Pt (n + 1) X zM250 28 [some (.ref 72), some (.int x1), some (.int x2), some (.int x3)] [] h (qI P) := by
  refine pt_1 (fun n d => r_iloadn gx250_28 rfl) ?_
  refine pt_d (pt_1 (fun n d => r_iloadn gx250_29 rfl) ?_)
  refine pt_d (pt_icmp_ge gx250_30 z3 z1 (fun e1 => ?_) (fun e1 => ?_))
  · have H := H.1 e1
    refine pt_d (pt_1 (fun n d => r_aloadn gx250_65 rfl) ?_)
    refine pt_d (pt_getI (B := 54) gx250_66 S (fun v2 h2 => ?_))
    exact pt_d (pt_iret gx250_69 ⟨_, rfl, by rw [h2]; exact H⟩)
  · have H := H.2 e1
    refine pt_d (pt_1 (fun n d => r_aloadn gx250_33 rfl) ?_)
    refine pt_d (pt_getR gx250_34 S tr_72_53 ?_)
    refine pt_d (pt_1 (fun n d => r_aloadn gx250_37 rfl) ?_)
    refine pt_d (pt_getI (B := 54) gx250_38 S (fun v4 h4 => ?_))
    refine pt_d (pt_1 (fun n d => r_iloadn gx250_41 rfl) ?_)
    refine pt_d (pt_bipush gx250_42 (fun v5 h5 => ?_))
    refine pt_d (pt_1 (fun n d => r_iloadn gx250_44 rfl) ?_)
    refine pt_d (pt_imul gx250_45 h5 z3 (fun v6 h6 => ?_))
    refine pt_d (pt_ishr gx250_46 z2 h6 (fun v7 h7 => ?_))
    refine pt_d (pt_i2b gx250_47 h7 (fun v8 h8 => ?_))
    refine pt_d (pt_bast (N' := 160) gx250_48 S tl_115 h4 h8 (fun h_9 S9 p9 q9 e9 => ?_))
    have H := H p9 q9
    refine pt_d (pt_1 (fun n d => r_aloadn gx250_49 rfl) ?_)
    refine pt_d (pt_1 (fun n d => r_dup gx250_50 rfl) ?_)
    refine pt_d (pt_getI (B := 54) gx250_51 S9 (fun v10 h10 => ?_))
    have h10 : v10.toInt = vw h 72 54 := by rw [h10, e9, up_c (by decide)]
    refine pt_d (pt_iconst gx250_54 (fun v11 h11 => ?_))
    refine pt_d (pt_iadd gx250_55 h10 h11 (fun v12 h12 => ?_))
    refine pt_d (pt_putI (B := 54) gx250_56 S9 h12 (fun h_13 S13 e13 => ?_))
    refine pt_d (pt_iinc (c := 1) gx250_59 rfl z3 (fun v14 h14 => ?_))
    show Pt _ _ _ _ [some (.ref 72), some (.int x1), some (.int x2), some (.int v14)] [] _ _
    refine pt_d (pt_1 (fun n d => r_goto gx250_62) ?_)
    have H := H h_13 S13 (by rw [e13, e9])
    exact H v14 h14
def R250 (V : vS) (m v r : Int) (V' : vS) : Prop := (¬ (1 ≤ m ∧ m ≤ 4) ∧ r = -1 ∧ V' = V) ∨ ((1 ≤ m ∧ m ≤ 4) ∧ ((160 < V 72 54 + m ∧ r = -3 ∧ V' = V) ∨ (V 72 54 + m ≤ 160 ∧ r = V 72 54 + m ∧ V' = fd V 115 72 54 v m.toNat)))
theorem l_250 {X : aX} {V : vS} {m v : Int} (hb : 0 ≤ V 72 54 ∧ V 72 54 + m ≤ 160) (hm : 0 ≤ m) : ∀ (n : Nat) (h : aH) (x1 x2 x3 : Int32) (k : Nat), wS h → x1.toInt = m → x2.toInt = v → x3.toInt = (k : Int) → (k : Int) ≤ m → vw h = fd V 115 72 54 v k → Pt n X zM250 28 [some (.ref 72), some (.int x1), some (.int x2), some (.int x3)] [] h (qI (fun y h' => y = V 72 54 + m ∧ vw h' = fd V 115 72 54 v m.toNat)) := by
  intro n
  induction n with
  | zero => exact fun _ _ _ _ _ _ _ _ _ _ _ => pt_z
  | succ n ih =>
    intro h x1 x2 x3 k S h1 h2 h3 hk e
    have eL : vw h 72 54 = V 72 54 + (k : Int) := by rw [e]; exact fd_L k
    refine d250_28 S h1 h2 h3 ⟨fun e1 => ⟨by rw [eL]; omega, ?_⟩, fun e1 _ _ g S2 eg w3 g3 => ?_⟩
    · rw [e]
      congr 1
      omega
    · replace g3 := w_1 g3 (by omega) (by omega)
      refine ih g x1 x2 w3 (k + 1) S2 h1 h2 (by omega) (by omega) ?_
      rw [eg, eL, e, w32_id (z := V 72 54 + (k : Int) + 1) (by omega) (by omega)]
      rfl
theorem c_250 {n : Nat} {X : aX} {h : aH} {x1 x2 : Int32} {a1 a2 : Int} (S : wS h) (z1 : x1.toInt = a1) (z2 : x2.toInt = a2) (hp : 0 ≤ vw h 72 54 ∧ vw h 72 54 ≤ 160) : Pt n X zM250 0 [some (.ref 72), some (.int x1), some (.int x2), none] [] h (qI (fun y h' => R250 (vw h) a1 a2 y (vw h'))) := by
  refine pt_d (d250_0 S z1 z2 ⟨fun e => ?_, fun e => Or.inl ⟨e, rfl, rfl⟩⟩)
  rw [w32_id (by omega) (by omega)]
  refine ⟨fun e2 w3 g3 => ?_, fun e2 => Or.inr ⟨e, Or.inl ⟨e2, rfl, rfl⟩⟩⟩
  refine pt_q (l_250 ⟨hp.1, e2⟩ (by omega) n h x1 x2 w3 0 S z1 z2 g3 (by omega) rfl) ?_
  rintro v h' ⟨x, ex, p1, p2⟩
  exact ⟨x, ex, Or.inr ⟨e, Or.inr ⟨e2, p1, p2⟩⟩⟩
-- both sides' texts are one
def JTxt (V : vS) : Prop := (V 33 1 = V 72 54 ∧ 0 ≤ V 33 1 ∧ V 33 1 ≤ 160) ∧ (∀ j, 0 ≤ j → j < V 33 1 → V 34 j = V 115 j) ∧ (V 33 7 = V 72 55 ∧ 0 ≤ V 33 7 ∧ V 33 7 ≤ 16) ∧ ∀ i, 0 ≤ i → i < V 33 7 → V 37 i = V 116 i ∧ V 38 i = V 118 i ∧ V 39 i = V 117 i
def LTxt : List (Nat × Option Nat) := [(33, some 1), (72, some 54), (34, none), (115, none), (33, some 7), (72, some 55), (37, none), (116, none), (38, none), (118, none), (39, none), (117, none)]
theorem JTxt_dG {W : List (Nat × Nat)} {σ σ1 : List Nat} {h h1 : aH} (J : JTxt (vw h)) (I : dI σ h) (G : dG W σ h σ1 h1) (k : frL W LTxt = true) : JTxt (vw h1) := by
  obtain ⟨a1, a2, a3, a4, a5, a6, a7, a8, a9, a10, a11, a12, -⟩ := ag_dG I.1 G _ k
  have a1 : vw h1 33 1 = vw h 33 1 := a1
  have a2 : vw h1 72 54 = vw h 72 54 := a2
  have a5 : vw h1 33 7 = vw h 33 7 := a5
  have a6 : vw h1 72 55 = vw h 72 55 := a6
  unfold JTxt
  simp only [a1, a2, a3, a4, a5, a6, a7, a8, a9, a10, a11, a12]
  exact J
theorem zJTxt0 : JTxt (vw zH0) := by
  have e1 : vw zH0 33 1 = 0 := vzf (i := 1) (x := 0) zh33 rfl
  have e2 : vw zH0 72 54 = 0 := vzf (i := 54) (x := 0) zh72 rfl
  have e3 : vw zH0 33 7 = 0 := vzf (i := 7) (x := 0) zh33 rfl
  have e4 : vw zH0 72 55 = 0 := vzf (i := 55) (x := 0) zh72 rfl
  refine ⟨⟨by rw [e1, e2], by rw [e1]; decide, by rw [e1]; decide⟩, fun j j0 j1 => by rw [e1] at j1; omega, ⟨by rw [e3, e4], by rw [e3]; decide, by rw [e3]; decide⟩, fun i i0 i1 => by rw [e3] at i1; omega⟩
theorem fd_c {V : vS} {T L : Nat} {f v : Int} {c : Nat} {j : Int} (h1 : c ≠ T) (h2 : c ≠ L ∨ j ≠ f) : ∀ k : Nat, fd V T L f v k c j = V c j
  | 0 => rfl
  | k + 1 => by
    have e : fd V T L f v (k + 1) = up (up (fd V T L f v k) T (V L f + (k : Int)) (w8 (w8 (bShr v (w32 (8 * (k : Int))))))) L f (V L f + (k : Int) + 1) := rfl
    rw [e]
    rcases h2 with z | z
    · rw [up_c z, up_c h1]
      exact fd_c h1 (Or.inl z) k
    · rw [up_j z, up_c h1]
      exact fd_c h1 (Or.inr z) k
theorem fd_t {V : vS} {T L : Nat} {f v j : Int} (h : T ≠ L) : ∀ k : Nat, fd V T L f v k T j = if V L f ≤ j ∧ j < V L f + (k : Int) then w8 (w8 (bShr v (w32 (8 * (j - V L f))))) else V T j
  | 0 => (if_neg (by omega)).symm
  | k + 1 => by
    have e : fd V T L f v (k + 1) = up (up (fd V T L f v k) T (V L f + (k : Int)) (w8 (w8 (bShr v (w32 (8 * (k : Int))))))) L f (V L f + (k : Int) + 1) := rfl
    rw [e, up_c h]
    by_cases z : j = V L f + (k : Int)
    · subst z
      rw [up_s, if_pos ⟨by omega, by omega⟩]
      congr 5
      omega
    · rw [up_j z, fd_t h k]
      by_cases z2 : V L f ≤ j ∧ j < V L f + (k : Int)
      · rw [if_pos z2, if_pos ⟨by omega, by omega⟩]
      · rw [if_neg z2, if_neg (by omega)]
theorem jx_23 {V V1 V2 : vS} {m v r1 r2 : Int} (J : JTxt V) (c : R167 V m v r1 V1) (mm : R250 V1 m v r2 V2) : JTxt V2 ∧ r1 = r2 := by
  obtain ⟨⟨j1, j2, j3⟩, j4, ⟨j5, j6, j7⟩, j8⟩ := J
  have J' : JTxt V := ⟨⟨j1, j2, j3⟩, j4, ⟨j5, j6, j7⟩, j8⟩
  rcases c with ⟨a, rfl, rfl⟩ | ⟨a, ⟨b, rfl, rfl⟩ | ⟨b, rfl, rfl⟩⟩
  · rcases mm with ⟨a', rfl, rfl⟩ | ⟨a', -⟩
    · exact ⟨J', rfl⟩
    · exact absurd a' a
  · rcases mm with ⟨a', -⟩ | ⟨a', ⟨b', rfl, rfl⟩ | ⟨b', -⟩⟩
    · exact absurd a a'
    · exact ⟨J', rfl⟩
    · omega
  · have k : ∀ (c : Nat) (j : Int), c ≠ 34 → (c ≠ 33 ∨ j ≠ 1) → fd V 34 33 1 v m.toNat c j = V c j := fun c j h1 h2 => fd_c h1 h2 _
    have e54 := k 72 54 (by decide) (Or.inl (by decide))
    have em : ((m.toNat : Nat) : Int) = m := by omega
    rcases mm with ⟨a', -⟩ | ⟨a', ⟨b', -⟩ | ⟨b', rfl, rfl⟩⟩
    · exact absurd a a'
    · rw [e54] at b'
      omega
    · have k2 : ∀ (c : Nat) (j : Int), c ≠ 115 → (c ≠ 72 ∨ j ≠ 54) → fd (fd V 34 33 1 v m.toNat) 115 72 54 v m.toNat c j = fd V 34 33 1 v m.toNat c j := fun c j h1 h2 => fd_c h1 h2 _
      have L1 : fd (fd V 34 33 1 v m.toNat) 115 72 54 v m.toNat 33 1 = V 33 1 + m := by
        rw [k2 33 1 (by decide) (Or.inl (by decide)), fd_L, em]
      have L2 : fd (fd V 34 33 1 v m.toNat) 115 72 54 v m.toNat 72 54 = V 33 1 + m := by
        rw [fd_L, e54, em, j1]
      refine ⟨⟨⟨by rw [L1, L2], by rw [L1]; omega, by rw [L1]; omega⟩, fun j h0 h1 => ?_, ⟨?_, ?_, ?_⟩, fun i h0 h1 => ?_⟩, by rw [e54, j1]⟩
      · rw [L1] at h1
        rw [k2 34 j (by decide) (Or.inl (by decide)), fd_t (by decide), fd_t (by decide), e54, j1]
        by_cases z : V 72 54 ≤ j ∧ j < V 72 54 + ((m.toNat : Nat) : Int)
        · rw [if_pos z, if_pos z]
        · rw [if_neg z, if_neg z, k 115 j (by decide) (Or.inl (by decide))]
          exact j4 j h0 (by omega)
      · rw [k2 33 7 (by decide) (Or.inl (by decide)), k2 72 55 (by decide) (Or.inr (by decide)), k 33 7 (by decide) (Or.inr (by decide)), k 72 55 (by decide) (Or.inl (by decide))]
        exact j5
      · rw [k2 33 7 (by decide) (Or.inl (by decide)), k 33 7 (by decide) (Or.inr (by decide))]
        exact j6
      · rw [k2 33 7 (by decide) (Or.inl (by decide)), k 33 7 (by decide) (Or.inr (by decide))]
        exact j7
      · rw [k2 33 7 (by decide) (Or.inl (by decide)), k 33 7 (by decide) (Or.inr (by decide))] at h1
        have kk : ∀ c : Nat, c ≠ 115 → c ≠ 72 → c ≠ 34 → c ≠ 33 → ∀ j, fd (fd V 34 33 1 v m.toNat) 115 72 54 v m.toNat c j = V c j := fun c h1 h2 h3 h4 j => (k2 c j h1 (Or.inl h2)).trans (k c j h3 (Or.inl h4))
        rw [kk 37 (by decide) (by decide) (by decide) (by decide), kk 38 (by decide) (by decide) (by decide) (by decide), kk 39 (by decide) (by decide) (by decide) (by decide), kk 116 (by decide) (by decide) (by decide) (by decide), kk 117 (by decide) (by decide) (by decide) (by decide), kk 118 (by decide) (by decide) (by decide) (by decide)]
        exact j8 i h0 h1
theorem tT_e {V : vS} (J : JTxt V) : tT V = mT V := by
  funext p
  unfold tT mT
  rw [J.1.1]
  by_cases z : 0 ≤ p ∧ p < V 72 54
  · rw [if_pos z, if_pos z]
    exact J.2.1 p z.1 (by rw [J.1.1]; exact z.2)
  · rw [if_neg z, if_neg z]
theorem vb34 {σ : List Nat} {h : aH} (I : dI σ h) : ∀ j, 0 ≤ j → j < 160 → -128 ≤ vw h 34 j ∧ vw h 34 j ≤ 127 := fun j h0 h1 => vw_rng I (c := 34) (a := 3) (n := 160) (lo := -128) (hi := 127) (by decide +kernel) h0 h1
theorem vb35 {σ : List Nat} {h : aH} (I : dI σ h) : ∀ j, 0 ≤ j → j < 2560 → -128 ≤ vw h 35 j ∧ vw h 35 j ≤ 127 := fun j h0 h1 => vw_rng I (c := 35) (a := 3) (n := 2560) (lo := -128) (hi := 127) (by decide +kernel) h0 h1
theorem jx_24 {V V1 V2 : vS} {w y r1 r2 : Int} (J : JTxt V) (hd : V 1 0 = V 72 1) (c : R168 V w y r1 V1) (m : R264 V1 w y r2 V2) : JTxt V2 ∧ r1 = r2 := by
  have eT := tT_e J
  obtain ⟨⟨j1, j2, j3⟩, j4, ⟨j5, j6, j7⟩, j8⟩ := J
  have J' : JTxt V := ⟨⟨j1, j2, j3⟩, j4, ⟨j5, j6, j7⟩, j8⟩
  rcases c with ⟨a, rfl, rfl⟩ | ⟨a, c⟩
  · rcases m with ⟨a', rfl, rfl⟩ | ⟨a', -⟩
    · exact ⟨J', rfl⟩
    · exact absurd a' a
  rcases c with ⟨ge, rfl, rfl⟩ | ⟨lt, q, f, p, c⟩
  · rcases m with ⟨a', -⟩ | ⟨-, ⟨b', rfl, rfl⟩ | ⟨b', -⟩⟩
    · exact absurd a a'
    · exact ⟨J', rfl⟩
    · omega
  rw [eT] at p
  rw [j1] at c
  -- what the model reads is as it was
  have key : ∀ (W : vS), (∀ c j, (c ≠ 33 ∨ (j < 9 ∨ 14 < j)) → V1 c j = W c j) → (∀ (c : Nat) j, 40 ≤ c → W c j = V c j) → mT V1 = mT V ∧ V1 72 55 = V 72 55 ∧ V1 72 54 = V 72 54 ∧ V1 72 1 = V 72 1 ∧ ∀ (c : Nat) j, 40 ≤ c → V1 c j = V c j := by
    intro W h1 h2
    have k : ∀ (c : Nat) j, 40 ≤ c → V1 c j = V c j := fun c j h => (h1 c j (Or.inl (by omega))).trans (h2 c j h)
    refine ⟨?_, k 72 55 (by decide), k 72 54 (by decide), k 72 1 (by decide), k⟩
    funext p
    unfold mT
    rw [k 72 54 (by decide), k 115 p (by decide)]
  have w118 : ∀ (c : Nat) j, 40 ≤ c → W118 V c j = V c j := fun c j h => by
    unfold W118
    rw [up_c (by omega), up_c (by omega), cpy_c (by omega)]
  rcases c with ⟨F, rfl, fr⟩ | ⟨F, rfl, fr⟩
  · obtain ⟨k1, k2, k3, k4, k5⟩ := key _ fr (fun c j h => by rw [up_c (by omega), up_c (by omega), up_c (by omega), up_c (by omega)]; exact w118 c j h)
    rcases m with ⟨a', -⟩ | ⟨-, ⟨b', -⟩ | ⟨b', q', f', p', mf⟩⟩
    · exact absurd a a'
    · omega
    · rw [k1] at p'
      obtain ⟨rfl, rfl⟩ := pr_u p p'
      unfold mfin at mf
      rw [k2, k3, k4] at mf
      rcases mf with ⟨-, rfl, M⟩ | ⟨F', -⟩
      · have M' : ∀ (c : Nat) j, (c < 119 ∨ 123 < c) → (c = 72 → j ≠ 64 ∧ j ≠ 65 ∧ j ≠ 66 ∧ j ≠ 68 ∧ j ≠ 67) → V2 c j = _ := fun c j h1 h2 => M c j (by omega) (by omega) (by omega) (by omega) (by omega) h2
        have v33 : ∀ j, (j < 9 ∨ 14 < j) → V2 33 j = up (up (up (up (W118 V) 37 (V 33 7) w) 38 (V 33 7) y) 39 (V 33 7) (V 1 0)) 33 7 (V 33 7 + 1) 33 j := fun j hj => by
          rw [M' 33 j (by omega) (fun z => absurd z (by decide)), up_c (by decide), up_c (by decide), up_c (by decide), up_c (by decide), up_c (by decide)]
          exact fr 33 j (Or.inr hj)
        have l1 : V2 33 1 = 0 := by
          rw [v33 1 (by omega), up_j (by decide), up_c (by decide), up_c (by decide), up_c (by decide)]
          unfold W118
          rw [up_s]
        have l7 : V2 33 7 = V 33 7 + 1 := by rw [v33 7 (by omega), up_s]
        have m54 : V2 72 54 = 0 := by rw [M' 72 54 (by omega) (fun _ => by decide), up_j (by decide), up_c (by decide), up_c (by decide), up_c (by decide), up_s]
        have m55 : V2 72 55 = V 72 55 + 1 := by rw [M' 72 55 (by omega) (fun _ => by decide), up_s]
        refine ⟨⟨⟨by rw [l1, m54], by rw [l1]; decide, by rw [l1]; decide⟩, fun j h0 h1 => by rw [l1] at h1; omega, ⟨by rw [l7, m55, j5], by rw [l7]; omega, by rw [l7]; omega⟩, fun i h0 h1 => ?_⟩, j5⟩
        rw [l7] at h1
        have w7 : ∀ (c : Nat) j, c = 37 ∨ c = 38 ∨ c = 39 → W118 V c j = V c j := fun c j h => by
          unfold W118
          rw [up_c (by omega), up_c (by omega), cpy_c (by omega)]
        have e37 : V2 37 i = if i = V 33 7 then w else V 37 i := by
          rw [M' 37 i (by omega) (fun z => absurd z (by decide)), up_c (by decide), up_c (by decide), up_c (by decide), up_c (by decide), up_c (by decide), fr 37 i (Or.inl (by decide)), up_c (by decide), up_c (by decide), up_c (by decide), up_p, w7 37 i (by decide)]
        have e38 : V2 38 i = if i = V 33 7 then y else V 38 i := by
          rw [M' 38 i (by omega) (fun z => absurd z (by decide)), up_c (by decide), up_c (by decide), up_c (by decide), up_c (by decide), up_c (by decide), fr 38 i (Or.inl (by decide)), up_c (by decide), up_c (by decide), up_p, up_c (by decide), w7 38 i (by decide)]
        have e39 : V2 39 i = if i = V 33 7 then V 1 0 else V 39 i := by
          rw [M' 39 i (by omega) (fun z => absurd z (by decide)), up_c (by decide), up_c (by decide), up_c (by decide), up_c (by decide), up_c (by decide), fr 39 i (Or.inl (by decide)), up_c (by decide), up_p, up_c (by decide), up_c (by decide), w7 39 i (by decide)]
        have e116 : V2 116 i = if i = V 72 55 then w else V 116 i := by
          rw [M' 116 i (by omega) (fun z => absurd z (by decide)), up_c (by decide), up_c (by decide), up_c (by decide), up_p, up_c (by decide), k5 116 i (by decide)]
        have e117 : V2 117 i = if i = V 72 55 then V 72 1 else V 117 i := by
          rw [M' 117 i (by omega) (fun z => absurd z (by decide)), up_c (by decide), up_c (by decide), up_p, up_c (by decide), up_c (by decide), k5 117 i (by decide)]
        have e118 : V2 118 i = if i = V 72 55 then y else V 118 i := by
          rw [M' 118 i (by omega) (fun z => absurd z (by decide)), up_c (by decide), up_p, up_c (by decide), up_c (by decide), up_c (by decide), k5 118 i (by decide)]
        rw [e37, e38, e39, e116, e117, e118, ← j5, hd]
        by_cases z : i = V 33 7
        · rw [if_pos z, if_pos z, if_pos z, if_pos z, if_pos z, if_pos z]
          exact ⟨rfl, rfl, rfl⟩
        · rw [if_neg z, if_neg z, if_neg z, if_neg z, if_neg z, if_neg z]
          exact j8 i h0 (by omega)
      · exact absurd F F'
  · obtain ⟨k1, k2, k3, k4, k5⟩ := key _ fr w118
    rcases m with ⟨a', -⟩ | ⟨-, ⟨b', -⟩ | ⟨b', q', f', p', mf⟩⟩
    · exact absurd a a'
    · omega
    · rw [k1] at p'
      obtain ⟨rfl, rfl⟩ := pr_u p p'
      unfold mfin at mf
      rw [k2, k3, k4] at mf
      rcases mf with ⟨F', -⟩ | ⟨-, rfl, M⟩
      · exact absurd F' F
      · have M' : ∀ (c : Nat) j, (c < 119 ∨ 123 < c) → (c = 72 → j ≠ 64 ∧ j ≠ 65 ∧ j ≠ 66 ∧ j ≠ 68 ∧ j ≠ 67) → V2 c j = up V1 72 54 0 c j := fun c j h1 h2 => M c j (by omega) (by omega) (by omega) (by omega) (by omega) h2
        have v33 : ∀ j, (j < 9 ∨ 14 < j) → V2 33 j = W118 V 33 j := fun j hj => by
          rw [M' 33 j (by omega) (fun z => absurd z (by decide)), up_c (by decide)]
          exact fr 33 j (Or.inr hj)
        have l1 : V2 33 1 = 0 := by
          rw [v33 1 (by omega)]
          unfold W118
          rw [up_s]
        have l7 : V2 33 7 = V 33 7 := by
          rw [v33 7 (by omega)]
          unfold W118
          rw [up_j (c' := 33) (by decide), up_c (by decide), cpy_c (by decide)]
        have m54 : V2 72 54 = 0 := by rw [M' 72 54 (by omega) (fun _ => by decide), up_s]
        have m55 : V2 72 55 = V 72 55 := by rw [M' 72 55 (by omega) (fun _ => by decide), up_j (by decide)]; exact k2
        have w7 : ∀ (c : Nat) j, c = 37 ∨ c = 38 ∨ c = 39 → V2 c j = V c j := fun c j h => by
          rw [M' c j (by omega) (fun z => by omega), up_c (by omega), fr c j (Or.inl (by omega))]
          unfold W118
          rw [up_c (by omega), up_c (by omega), cpy_c (by omega)]
        have w8 : ∀ (c : Nat) j, c = 116 ∨ c = 117 ∨ c = 118 → V2 c j = V c j := fun c j h => by
          rw [M' c j (by omega) (fun z => by omega), up_c (by omega), k5 c j (by omega)]
        refine ⟨⟨⟨by rw [l1, m54], by rw [l1]; decide, by rw [l1]; decide⟩, fun j h0 h1 => by rw [l1] at h1; omega, ⟨by rw [l7, m55, j5], by rw [l7]; omega, by rw [l7]; omega⟩, fun i h0 h1 => ?_⟩, rfl⟩
        rw [l7] at h1
        rw [w7 37 i (by decide), w7 38 i (by decide), w7 39 i (by decide), w8 116 i (by decide), w8 117 i (by decide), w8 118 i (by decide)]
        exact j8 i h0 h1


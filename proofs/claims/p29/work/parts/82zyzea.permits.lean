-- ===== the permits by value =====
def ins6 (V W : vS) (m b v : Int) : Prop := ∃ k, (0 ≤ k ∧ k ≤ m) ∧ (∀ i, 0 ≤ i → i < k → W 6 i = V 6 i) ∧ W 6 k = b ∧ (∀ i, k ≤ i → i < m → W 6 (i + 1) = V 6 i) ∧ (k = 0 ∨ v ≤ V 3 (V 6 (k - 1))) ∧ ∀ i, k ≤ i → i < m → V 3 (V 6 i) < v
theorem l_80s {X : aX} {V : vS} {b v m : Int} (hm : 0 ≤ m ∧ m ≤ 150) : ∀ (n : Nat) (h : aH) (x1 x2 x3 : Int32) (k : Int), wS h → x1.toInt = v → x2.toInt = b → x3.toInt = k → (0 ≤ k ∧ k ≤ m) → (∀ (c : Nat) j, c ≠ 6 → vw h c j = V c j) → (∀ i, 0 ≤ i → i < k → vw h 6 i = V 6 i) → (∀ i, k ≤ i → i < m → vw h 6 (i + 1) = V 6 i) → (∀ i, k ≤ i → i < m → V 3 (V 6 i) < v) → Pt n X zM80 20 [some (.ref 1), some (.int x1), some (.int x2), some (.int x3)] [] h (qI (fun _ h' => ins6 V (vw h') m b v)) := by
  intro n
  induction n with
  | zero => intros; exact pt_z
  | succ n ih =>
    intro h x1 x2 x3 k S h1 h2 h3 hk F lo up' le
    have fin : ∀ g : aH, (k = 0 ∨ v ≤ V 3 (V 6 (k - 1))) → vw g = up (up (vw h) 6 k b) 1 4 (w32 (vw h 1 4 + 1)) → ins6 V (vw g) m b v := fun g o eg => by
      refine ⟨k, hk, fun i a c => ?_, ?_, fun i a c => ?_, o, le⟩
      · rw [eg, up_c (by decide), up_j (by omega)]
        exact lo i a c
      · rw [eg, up_c (by decide), up_s]
      · rw [eg, up_c (by decide), up_j (by omega)]
        exact up' i a c
    refine d80_20 S h1 h2 h3 ⟨fun e _ _ g _ eg => fin g (Or.inl (by omega)) eg, fun e _ _ _ _ => ?_⟩
    have w : w32 (k - 1) = k - 1 := w32_id (by omega) (by omega)
    rw [w]
    have e6 : vw h 6 (k - 1) = V 6 (k - 1) := lo (k - 1) (by omega) (by omega)
    have e3 : vw h 3 (vw h 6 (k - 1)) = V 3 (V 6 (k - 1)) := by rw [e6]; exact F 3 _ (by decide)
    refine ⟨fun e2 _ _ g _ eg => fin g (Or.inr (by rw [← e3]; exact e2)) eg, fun e2 _ _ g S2 eg y3 h3' => ?_⟩
    have w2 : w32 (k + (-1)) = k - 1 := by rw [← w]; rfl
    rw [w2] at h3'
    rw [e3] at e2
    refine ih g x1 x2 y3 (k - 1) S2 h1 h2 h3' (by omega) (fun c j a => by rw [eg, up_c a]; exact F c j a) (fun i a c => ?_) (fun i a c => ?_) (fun i a c => ?_)
    · rw [eg, up_j (by omega)]
      exact lo i a (by omega)
    · by_cases z : i = k - 1
      · rw [z, eg, show k - 1 + 1 = k by omega, up_s]
        exact e6
      · rw [eg, up_j (by omega)]
        exact up' i (by omega) c
    · by_cases z : i = k - 1
      · rw [z]
        exact e2
      · exact le i (by omega) c
theorem c_80s {n : Nat} {X : aX} {h : aH} {x1 : Int32} {a1 : Int} (S : wS h) (z1 : x1.toInt = a1) (hm : 0 ≤ vw h 1 4 ∧ vw h 1 4 ≤ 150) : Pt n X zM80 0 [some (.ref 1), some (.int x1), none, none] [] h (qI (fun _ h' => vw h' = vw h ∨ ins6 (cAddV (vw h) 6 a1 (-1)) (vw h') (vw h 1 4) (vw h 1 1) a1)) := by
  refine pt_d (d80_0 S z1 (fun y g p => ⟨fun e y2 y3 h2 h3 => ?_, fun e => ?_⟩))
  · rcases p.2 with ⟨q1, q2, q3⟩ | ⟨q1, q2, q3, q4⟩
    · omega
    · have e4 : vw g 1 4 = vw h 1 4 := by rw [q4]; exact cA_14
      refine pt_q (l_80s (V := vw g) (b := vw h 1 1) hm n g x1 y2 y3 (vw h 1 4) p.1 z1 (h2.trans q3) (h3.trans e4) ⟨hm.1, Int.le_refl _⟩ (fun _ _ _ => rfl) (fun _ _ _ => rfl) (fun i a c => by omega) (fun i a c => by omega)) ?_
      rintro v h' ⟨x, ev, r⟩
      rw [q4] at r
      exact ⟨x, ev, Or.inr r⟩
  · rcases p.2 with ⟨q1, q2, q3⟩ | ⟨q1, q2, q3, q4⟩
    · exact Or.inl q3
    · omega
theorem c_80t {n : Nat} {X : aX} {h : aH} {x1 : Int32} {a1 : Int} (S : wS h) (z1 : x1.toInt = a1) (hm : 0 ≤ vw h 1 4 ∧ vw h 1 4 ≤ 150) : Pt n X zM80 0 [some (.ref 1), some (.int x1), none, none] [] h (qI (fun y h' => wS h' ∧ RPer4 (vw h) a1 y (vw h') ∧ (vw h' = vw h ∨ ins6 (cAddV (vw h) 6 a1 (-1)) (vw h') (vw h 1 4) (vw h 1 1) a1))) := by
  refine pt_q (pt_and (c_80p S z1) (c_80s S z1 hm)) ?_
  rintro v h' ⟨⟨x, rfl, r1, r2⟩, ⟨x', -, r3⟩⟩
  exact ⟨x, rfl, r1, r2, r3⟩

theorem f151_0 {n : Nat} {X : aX} {h : aH} {P : Int → aH → Prop} {x1 : Int32} {a1 : Int} (S : wS h) (z1 : x1.toInt = a1) (H : (((1 ≤ a1 ∧ a1 ≤ 999) → ((¬ (150 ≤ (vw h) 1 1) → ((0 ≤ vw h 1 4 ∧ vw h 1 4 ≤ 150) ∧ ∀ (y9 : Int) (h_9 : aH), (wS h_9 ∧ RPer4 (vw h) a1 y9 (vw h_9) ∧ (vw h_9 = vw h ∨ ins6 (cAddV (vw h) 6 a1 (-1)) (vw h_9) (vw h 1 4) (vw h 1 1) a1)) → P y9 h_9)) ∧ ((150 ≤ (vw h) 1 1) → P (-3) h))) ∧ (¬ (1 ≤ a1 ∧ a1 ≤ 999) → P (-1) h))) : Pt (n + 1) X zM151 0 [some (.ref 0), some (.int x1)] [] h (qI P) := by
  refine pt_1 (fun n d => r_iloadn gx151_0 rfl) ?_
  refine pt_d (pt_iconst gx151_1 (fun v1 h1 => ?_))
  refine pt_d (pt_sipush gx151_2 (fun v2 h2 => ?_))
  refine pt_d (pt_stat (as := [.int x1, .int v1, .int v2]) (r := []) gx151_5 rfl (show zmt[137]? = some zM137 from rfl) rfl rfl rfl rfl (c_137 S z1 h1 h2) (kqP (fun v3 h3 => ?_)))
  show Pt _ _ _ 8 _ [.int v3] _ _
  refine pt_d (pt_ifB_ne gx151_8 h3 (fun e4 => ?_) (fun e4 => ?_))
  · have H := H.1 e4
    refine pt_d (pt_1 (fun n d => r_aloadn gx151_13 rfl) ?_)
    refine pt_d (pt_getR gx151_14 S tr_0_0 ?_)
    refine pt_d (pt_virt (as := []) (r := []) gx151_17 rfl (show zmt[73]? = some zM73 from rfl) rfl rfl rfl rfl (c_73 S) (kqP (fun v6 h6 => ?_)))
    show Pt _ _ _ 20 _ [.int v6] _ _
    refine pt_d (pt_ifB_eq gx151_20 h6 (fun e7 => ?_) (fun e7 => ?_))
    · have H := H.1 e7
      refine pt_d (pt_1 (fun n d => r_aloadn gx151_28 rfl) ?_)
      refine pt_d (pt_getR gx151_29 S tr_0_0 ?_)
      refine pt_d (pt_1 (fun n d => r_iloadn gx151_32 rfl) ?_)
      obtain ⟨pr9, H⟩ := H
      refine pt_d (pt_virt (as := [.int x1]) (r := []) gx151_33 rfl (show zmt[80]? = some zM80 from rfl) rfl rfl rfl rfl (c_80t S z1 pr9) (kqI (fun v9 y9 h_9 h9 P9 => ?_)))
      have S9 := P9.1
      have H := H y9 h_9 P9
      show Pt _ _ _ 36 _ [.int v9] _ _
      exact pt_d (pt_iret gx151_36 ⟨_, rfl, by rw [h9]; exact H⟩)
    · have H := H.2 e7
      refine pt_d (pt_bipush gx151_23 (fun v10 h10 => ?_))
      refine pt_d (pt_1 (fun n d => r_goto gx151_25) ?_)
      exact pt_d (pt_iret gx151_36 ⟨_, rfl, by rw [h10]; exact H⟩)
  · have H := H.2 e4
    refine pt_d (pt_iconst gx151_11 (fun v11 h11 => ?_))
    exact pt_d (pt_iret gx151_12 ⟨_, rfl, by rw [h11]; exact H⟩)
def R151s (V : vS) (v r : Int) (W : vS) : Prop := R151p V v r W ∧ (W = V ∨ ins6 (cAddV V 6 v (-1)) W (V 1 4) (V 1 1) v)
theorem c_151s {n : Nat} {X : aX} {h : aH} {x1 : Int32} {a1 : Int} (S : wS h) (z1 : x1.toInt = a1) (hm : 0 ≤ vw h 1 4 ∧ vw h 1 4 ≤ 150) : Pt n X zM151 0 [some (.ref 0), some (.int x1)] [] h (qI (fun y h' => R151s (vw h) a1 y (vw h'))) :=
  pt_d (f151_0 S z1 ⟨fun e => ⟨fun e3 => ⟨hm, fun y g p => ⟨⟨Or.inr ⟨e, p.2.1.1⟩, p.2.1.2⟩, p.2.2⟩⟩, fun e3 => ⟨⟨Or.inr ⟨e, Or.inl ⟨e3, rfl, rfl⟩⟩, Or.inl rfl⟩, Or.inl rfl⟩⟩, fun e => ⟨⟨Or.inl ⟨e, rfl, rfl⟩, Or.inl rfl⟩, Or.inl rfl⟩⟩)
def JPer (V : vS) : Prop := (0 ≤ V 1 4) ∧ (∀ i, 0 ≤ i → i < V 1 4 → (0 ≤ V 6 i ∧ V 6 i < V 1 1) ∧ V 2 (V 6 i) = 6) ∧ (∀ i i', 0 ≤ i → i < i' → i' < V 1 4 → V 3 (V 6 i') < V 3 (V 6 i) ∨ (V 3 (V 6 i') = V 3 (V 6 i) ∧ V 6 i < V 6 i')) ∧ ∀ b, 0 ≤ b → b < V 1 1 → V 2 b = 6 → ∃ i, (0 ≤ i ∧ i < V 1 4) ∧ V 6 i = b
def LPer : List (Nat × Option Nat) := [(1, some 1), (1, some 4), (2, none), (3, none), (6, none)]
theorem JPer_ag {V W : vS} (J : JPer V) (A : ag LPer V W) : JPer W := by
  obtain ⟨a1, a2, a3, a4, a5, -⟩ := A
  have a1 : W 1 1 = V 1 1 := a1
  have a2 : W 1 4 = V 1 4 := a2
  unfold JPer at J ⊢
  simp only [a1, a2, a3, a4, a5]
  exact J
theorem JPer_dG {W : List (Nat × Nat)} {σ σ1 : List Nat} {h h1 : aH} (J : JPer (vw h)) (I : dI σ h) (G : dG W σ h σ1 h1) (k : frL W LPer = true) : JPer (vw h1) := JPer_ag J (ag_dG I.1 G _ k)
theorem zJPer0 : JPer (vw zH0) := by
  have e1 : vw zH0 1 1 = 0 := vzf (i := 1) (x := 0) zh1 rfl
  have e4 : vw zH0 1 4 = 0 := vzf (i := 4) (x := 0) zh1 rfl
  unfold JPer
  rw [e1, e4]
  exact ⟨Int.le_refl _, fun i a b => by omega, fun i i' a b c => by omega, fun b a c => by omega⟩
section PER
variable {V V1 V2 W : vS}
-- a body that is no permit comes
theorem jper_n (J : JPer V) (n : 0 ≤ V 1 1 ∧ V 1 1 < 150) {k : Int} (hk : k ≠ 6) (e1 : W 1 1 = V 1 1 + 1) (e4 : W 1 4 = V 1 4) (e2 : ∀ j, W 2 j = if j = V 1 1 then k else V 2 j) (e3 : ∀ j, 0 ≤ j → j < V 1 1 → W 3 j = V 3 j) (e6 : ∀ j, W 6 j = V 6 j) : JPer W := by
  obtain ⟨j0, j1, j2, j3⟩ := J
  unfold JPer
  rw [e1, e4]
  refine ⟨j0, fun i a b => ?_, fun i i' a b c => ?_, fun b a c z => ?_⟩
  · obtain ⟨r, z⟩ := j1 i a b
    rw [e6, e2, if_neg (by omega)]
    exact ⟨⟨r.1, by omega⟩, z⟩
  · have r := (j1 i a (by omega)).1
    have r' := (j1 i' (by omega) c).1
    rw [e6, e6, e3 _ r.1 r.2, e3 _ r'.1 r'.2]
    exact j2 i i' a b c
  · rw [e2] at z
    by_cases y : b = V 1 1
    · rw [if_pos y] at z
      exact absurd z hk
    · rw [if_neg y] at z
      obtain ⟨i, hi, e⟩ := j3 b a (by omega) z
      exact ⟨i, hi, by rw [e6]; exact e⟩
-- a permit comes
theorem jper_i (J : JPer V) (n : 0 ≤ V 1 1 ∧ V 1 1 < 150) {v : Int} {U : vS} (u6 : ∀ j, U 6 j = V 6 j) (u3 : ∀ j, U 3 j = if j = V 1 1 then v else V 3 j) (e1 : W 1 1 = V 1 1 + 1) (e4 : W 1 4 = V 1 4 + 1) (e2 : ∀ j, W 2 j = if j = V 1 1 then 6 else V 2 j) (e3 : ∀ j, W 3 j = if j = V 1 1 then v else V 3 j) (N : ins6 U W (V 1 4) (V 1 1) v) : JPer W := by
  obtain ⟨j0, j1, j2, j3⟩ := J
  obtain ⟨k, hk, lo, at', hi, le, gt⟩ := N
  -- the new list
  have wl : ∀ i, 0 ≤ i → i < k → W 6 i = V 6 i := fun i a b => (lo i a b).trans (u6 i)
  have wh : ∀ i, k < i → i < V 1 4 + 1 → W 6 i = V 6 (i - 1) := fun i a b => by
    have h := hi (i - 1) (by omega) (by omega)
    rw [show i - 1 + 1 = i by omega, u6] at h
    exact h
  have v3 : ∀ i, 0 ≤ i → i < V 1 4 → W 3 (V 6 i) = V 3 (V 6 i) ∧ U 3 (U 6 i) = V 3 (V 6 i) := fun i a b => by
    have r := (j1 i a b).1
    rw [u6, e3, u3, if_neg (by omega)]
    exact ⟨rfl, rfl⟩
  have n3 : W 3 (V 1 1) = v := by rw [e3, if_pos rfl]
  have le' : ∀ i, 0 ≤ i → i < k → v ≤ V 3 (V 6 i) := fun i a b => by
    rcases le with z | z
    · omega
    · rw [(v3 (k - 1) (by omega) (by omega)).2] at z
      by_cases y : i = k - 1
      · rw [y]
        exact z
      · have := j2 i (k - 1) a (by omega) (by omega)
        omega
  have gt' : ∀ i, k ≤ i → i < V 1 4 → V 3 (V 6 i) < v := fun i a b => by
    have h := gt i a b
    rw [(v3 i (by omega) b).2] at h
    exact h
  unfold JPer
  rw [e1, e4]
  refine ⟨by omega, fun i a b => ?_, fun i i' a b c => ?_, fun b a c z => ?_⟩
  · by_cases x : i < k
    · obtain ⟨r, z⟩ := j1 i a (by omega)
      rw [wl i a x, e2, if_neg (by omega)]
      exact ⟨⟨r.1, by omega⟩, z⟩
    · by_cases y : i = k
      · rw [y, at', e2, if_pos rfl]
        exact ⟨⟨n.1, by omega⟩, rfl⟩
      · obtain ⟨r, z⟩ := j1 (i - 1) (by omega) (by omega)
        rw [wh i (by omega) b, e2, if_neg (by omega)]
        exact ⟨⟨r.1, by omega⟩, z⟩
  · by_cases x : i' < k
    · rw [wl i a (by omega), wl i' (by omega) x, (v3 i a (by omega)).1, (v3 i' (by omega) (by omega)).1]
      exact j2 i i' a b (by omega)
    · by_cases y : i' = k
      · have r := (j1 i a (by omega)).1
        have l := le' i a (by omega)
        rw [wl i a (by omega), y, at', n3, (v3 i a (by omega)).1]
        omega
      · rw [wh i' (by omega) c, (v3 (i' - 1) (by omega) (by omega)).1]
        by_cases x2 : i < k
        · rw [wl i a x2, (v3 i a (by omega)).1]
          exact j2 i (i' - 1) a (by omega) (by omega)
        · by_cases y2 : i = k
          · rw [y2, at', n3]
            exact Or.inl (gt' (i' - 1) (by omega) (by omega))
          · rw [wh i (by omega) (by omega), (v3 (i - 1) (by omega) (by omega)).1]
            exact j2 (i - 1) (i' - 1) (by omega) (by omega) (by omega)
  · rw [e2] at z
    by_cases y : b = V 1 1
    · exact ⟨k, ⟨hk.1, by omega⟩, by rw [y]; exact at'⟩
    · rw [if_neg y] at z
      obtain ⟨i, hi', e⟩ := j3 b a (by omega) z
      by_cases x : i < k
      · exact ⟨i, ⟨hi'.1, by omega⟩, by rw [wl i hi'.1 x]; exact e⟩
      · refine ⟨i + 1, ⟨by omega, by omega⟩, ?_⟩
        rw [wh (i + 1) (by omega) (by omega), show i + 1 - 1 = i by omega]
        exact e
theorem jper_c {k m t : Int} (J : JPer V) (n : 0 ≤ V 1 1 ∧ V 1 1 < 150) (hk : k ≠ 6) (x : ∀ (c : Nat) j, c < 7 → W c j = cAddV V k m t c j) : JPer W :=
  jper_n (k := k) J n hk (by rw [x 1 1 (by decide), cA_n, w32_id (by omega) (by omega)]) (by rw [x 1 4 (by decide), cA_14]) (fun j => by rw [x 2 j (by decide), cA_2]) (fun j a b => by
    rw [x 3 j (by decide)]
    unfold cAddV
    rw [up_c (by decide), up_c (by decide), up_c (by decide), up_c (by decide), up_c (by decide), up_c (by decide), up_j (by omega), up_c (by decide)]) (fun j => by
    rw [x 6 j (by decide)]
    unfold cAddV
    rw [up_c (by decide), up_c (by decide), up_c (by decide), up_c (by decide), up_c (by decide), up_c (by decide), up_c (by decide), up_c (by decide)])
theorem jper_m (J : JPer V) (m : W = V ∨ mAd V W) : JPer W :=
  JPer_ag J ⟨mx_l m 1 1 (Or.inl (by decide)), mx_l m 1 4 (Or.inl (by decide)), fun j => mx_l m 2 j (Or.inl (by decide)), fun j => mx_l m 3 j (Or.inl (by decide)), fun j => mx_l m 6 j (Or.inl (by decide)), trivial⟩
theorem jper_1 {k m t r : Int} (J : JPer V) (hk : k ≠ 6) (c : RAdd V k m t r V1) : JPer V1 := by
  rcases c with ⟨-, -, e⟩ | ⟨a, b, -, e⟩
  · rw [e]
    exact J
  · rw [e]
    exact jper_c (k := k) (m := m) (t := t) J ⟨a, b⟩ hk (fun _ _ _ => rfl)
theorem jper_2 {k l r : Int} (J : JPer V) (c : R146 V k l r V1) : JPer V1 := by
  rcases c with ⟨-, -, e⟩ | ⟨h, c⟩
  · rw [e]
    exact J
  · refine jper_1 J (fun z => ?_) c
    have := h.1
    unfold kFarm at this
    omega
theorem jper_6 {f m r : Int} (J : JPer V) (c : R150 V f m r V1) : JPer V1 := by
  rcases c with ⟨-, -, e⟩ | ⟨-, ⟨-, -, e⟩ | ⟨-, -, -, e⟩ | ⟨-, a, b, -, e⟩⟩
  · rw [e]; exact J
  · rw [e]; exact J
  · rw [e]; exact J
  · have hk : (if m = 1 then (5 : Int) else 4) ≠ 6 := by split <;> decide
    generalize (if m = 1 then (5 : Int) else 4) = k at e hk
    exact jper_c (k := k) (m := cArea V) (t := f) J ⟨a, b⟩ hk (fun c j u => by rw [e, up_c (by omega), outl_c (by omega)])
theorem jper_7 {v r : Int} (J : JPer V) (h4 : V 1 4 ≤ 150) (c : R151s V v r V1) : JPer V1 := by
  obtain ⟨⟨c, d⟩, N⟩ := c
  rcases N with e | N
  · rw [e]; exact J
  rcases c with ⟨-, -, e⟩ | ⟨-, ⟨-, -, e⟩ | ⟨a, b, -, e⟩⟩
  · rw [e]; exact J
  · rw [e]; exact J
  · rcases d with d | d
    · rw [d]; exact J
    · have j0 := J.1
      have c3 : ∀ j, cAddV V 6 v (-1) 3 j = if j = V 1 1 then v else V 3 j := fun j => by
        unfold cAddV
        rw [up_c (by decide), up_c (by decide), up_c (by decide), up_c (by decide), up_c (by decide), up_c (by decide), up_p, up_c (by decide)]
      have c6 : ∀ j, cAddV V 6 v (-1) 6 j = V 6 j := fun j => by
        unfold cAddV
        rw [up_c (by decide), up_c (by decide), up_c (by decide), up_c (by decide), up_c (by decide), up_c (by decide), up_c (by decide), up_c (by decide)]
      exact jper_i J ⟨a, b⟩ c6 c3 (by rw [e 1 1 (by decide) (by decide), cA_n, w32_id (by omega) (by omega)]) (by rw [d, w32_id (by omega) (by omega)]) (fun j => by rw [e 2 j (by decide) (fun z => absurd z.1 (by decide)), cA_2]) (fun j => by rw [e 3 j (by decide) (fun z => absurd z.1 (by decide)), c3]) N
theorem jx_7s {v r1 r2 : Int} (J : JBody V) (hd : V 1 0 = V 72 1) (c : R151s V v r1 V1) (m : R208 V1 v r2 V2) : JBody V2 ∧ r1 = r2 := jx_7 J hd c.1.1 m
end PER


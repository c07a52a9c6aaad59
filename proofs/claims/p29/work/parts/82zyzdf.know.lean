-- ===== what is known of a farm =====
theorem d38_0 {n : Nat} {X : aX} {h : aH} {P : Int → aH → Prop} {x1 x2 x3 : Int32} {a1 a2 a3 : Int} (S : wS h) (z1 : x1.toInt = a1) (z2 : x2.toInt = a2) (z3 : x3.toInt = a3) (H : (0 ≤ w32 ((w32 (a1 * 10)) + a2) → w32 ((w32 (a1 * 10)) + a2) < 1500 → P (bI (1 ≤ (vw h 32 (w32 ((w32 (a1 * 10)) + a2))) ∧ (vw h 32 (w32 ((w32 (a1 * 10)) + a2))) ≤ (w32 (a3 + 1)))) h)) : Pt (n + 1) X zM38 0 [some (.ref 16), some (.int x1), some (.int x2), some (.int x3)] [] h (qI P) := by
  refine pt_1 (fun n d => r_aloadn gx38_0 rfl) ?_
  refine pt_d (pt_getR gx38_1 S tr_16_19 ?_)
  refine pt_d (pt_1 (fun n d => r_iloadn gx38_4 rfl) ?_)
  refine pt_d (pt_bipush gx38_5 (fun v2 h2 => ?_))
  refine pt_d (pt_imul gx38_7 z1 h2 (fun v3 h3 => ?_))
  refine pt_d (pt_1 (fun n d => r_iloadn gx38_8 rfl) ?_)
  refine pt_d (pt_iadd gx38_9 h3 z2 (fun v4 h4 => ?_))
  refine pt_d (pt_iald (N' := 1500) gx38_10 S tl_32 h4 (fun v5 p5 q5 h5 => ?_))
  have H := H p5 q5
  refine pt_d (pt_iconst gx38_11 (fun v6 h6 => ?_))
  refine pt_d (pt_1 (fun n d => r_iloadn gx38_12 rfl) ?_)
  refine pt_d (pt_iconst gx38_13 (fun v7 h7 => ?_))
  refine pt_d (pt_iadd gx38_14 z3 h7 (fun v8 h8 => ?_))
  refine pt_d (pt_stat (as := [.int v5, .int v6, .int v8]) (r := []) gx38_15 rfl (show zmt[137]? = some zM137 from rfl) rfl rfl rfl rfl (c_137 S h5 h6 h8) (kqP (fun v9 h9 => ?_)))
  show Pt _ _ _ 18 _ [.int v9] _ _
  exact pt_d (pt_iret gx38_18 ⟨_, rfl, by rw [h9]; exact H⟩)
def cPrv (V : vS) (f y t : Int) : Prop := 1 ≤ V 32 (w32 (w32 (f * 10) + y)) ∧ V 32 (w32 (w32 (f * 10) + y)) ≤ w32 (t + 1)
theorem c_38 {n : Nat} {X : aX} {h : aH} {x1 x2 x3 : Int32} {a1 a2 a3 : Int} (S : wS h) (z1 : x1.toInt = a1) (z2 : x2.toInt = a2) (z3 : x3.toInt = a3) : Pt n X zM38 0 [some (.ref 16), some (.int x1), some (.int x2), some (.int x3)] [] h (qI (fun r h' => h' = h ∧ r = bI (cPrv (vw h) a1 a2 a3))) :=
  pt_d (d38_0 S z1 z2 z3 (fun _ _ => ⟨rfl, rfl⟩))
-- frames: what seasons and names are made of
theorem ag_k {V W : vS} (e : ∀ (c : Nat) j, c < 33 ∨ 72 ≤ c ∧ c ≤ 111 → W c j = V c j) : ∀ L : List (Nat × Option Nat), L.all (fun t => Nat.blt t.1 33 || (Nat.ble 72 t.1 && Nat.ble t.1 111)) = true → ag L V W
  | [], _ => trivial
  | (c, none) :: r, k => by
    rw [List.all_cons, Bool.and_eq_true] at k
    have k1 := k.1
    simp only [Bool.or_eq_true, Bool.and_eq_true, Nat.blt_eq, Nat.ble_eq] at k1
    exact ⟨fun j => e c j k1, ag_k e r k.2⟩
  | (c, some i) :: r, k => by
    rw [List.all_cons, Bool.and_eq_true] at k
    have k1 := k.1
    simp only [Bool.or_eq_true, Bool.and_eq_true, Nat.blt_eq, Nat.ble_eq] at k1
    exact ⟨e c _ k1, ag_k e r k.2⟩
theorem lt1_k {V W : vS} (e : ∀ (c : Nat) j, c < 33 → W c j = V c j) (c : Int) : lt1 W c = lt1 V c := by
  unfold lt1
  rw [e 17 c (by decide), e 3 _ (by decide), e 20 c (by decide), e 22 _ (by decide)]
theorem AP_k {V W : vS} (A : AP V) (e : ∀ (c : Nat) j, c < 33 ∨ 72 ≤ c ∧ c ≤ 111 → W c j = V c j) : AP W := by
  obtain ⟨⟨C, B, Od, d, Rw, r8, r18⟩, O, K, ⟨N, O2, R⟩, l⟩ := A
  refine ⟨⟨JClm_ag C (ag_k e _ (by decide)), JBody_ag B (ag_k e _ (by decide)), JOrd_ag Od (ag_k e _ (by decide)), fun c => by rw [e 20 c (by decide)]; exact d c, JRows_ag Rw (ag_k e _ (by decide)), fun j => by rw [e 8 j (by decide)]; exact r8 j, fun j => by rw [e 18 j (by decide)]; exact r18 j⟩, JOut_ag O (ag_k e _ (by decide)), JCtl_ag K (ag_k e _ (by decide)), ⟨J30_ag N (ag_k e _ (by decide)), JOut2_ag O2 (ag_k e _ (by decide)), JR24_ag R (ag_k e _ (by decide))⟩, fun c c0 cN => ?_⟩
  rw [e 16 1 (by decide)] at cN
  have h := l c c0 cN
  rw [lt1_k (fun c j u => e c j (Or.inl u)), h]
  unfold lt0
  rw [e 90 c (by decide), e 87 c (by decide), e 74 _ (by decide), e 91 _ (by decide)]
noncomputable def kS (V : vS) (t y f : Int) : Int := fSm V t y f (vG V t)
noncomputable def kM (V : vS) (t y f : Int) : Int := fSm V t y f (vL V t)
noncomputable def kC (V : vS) (t y f j : Int) : Int := sgm (fun c => pI ((LkM V t y c ∧ V 87 c = f) ∧ V 89 c = j) (vG V t c)) (V 72 19).toNat
noncomputable def kG (V : vS) (t y f : Int) : Int := sgm (fun c => pI ((LkM V t y c ∧ V 87 c = f) ∧ V 73 (V 88 c) = 5) (vG V t c)) (V 72 19).toNat
noncomputable def kL (V : vS) (t y f : Int) : Int := lasN (fun c => LkM V t y c ∧ V 87 c = f) (V 72 19).toNat
theorem fSm_k {V W : vS} (M : agM V W) {g g' : Int → Int} (e : ∀ c, g' c = g c) (t y f : Int) : fSm W t y f g' = fSm V t y f g := by
  unfold fSm
  rw [M.2.1]
  refine sgm_c _ (fun c _ _ => ?_)
  rw [M.1 87 c (by decide) (by decide), e c]
  exact pI_c (and_congr_left (fun _ => LkM_m M t y c)) (fun _ => rfl)
theorem kS_k {V W : vS} (M : agM V W) (t y f : Int) : kS W t y f = kS V t y f := fSm_k M (fun c => vG_m M t c) t y f
theorem kM_k {V W : vS} (M : agM V W) (t y f : Int) : kM W t y f = kM V t y f := fSm_k M (fun c => by
  unfold vL
  rw [vG_m M, M.2.2.2, mmg_m M]) t y f
theorem kC_k {V W : vS} (M : agM V W) (t y f j : Int) : kC W t y f j = kC V t y f j := by
  unfold kC
  rw [M.2.1]
  refine sgm_c _ (fun c _ _ => ?_)
  rw [M.1 87 c (by decide) (by decide), M.1 89 c (by decide) (by decide), vG_m M]
  exact pI_c (and_congr_left (fun _ => and_congr_left (fun _ => LkM_m M t y c))) (fun _ => rfl)
theorem kG_k {V W : vS} (M : agM V W) (t y f : Int) : kG W t y f = kG V t y f := by
  unfold kG
  rw [M.2.1]
  refine sgm_c _ (fun c _ _ => ?_)
  rw [M.1 87 c (by decide) (by decide), M.1 88 c (by decide) (by decide), M.1 73 _ (by decide) (by decide), vG_m M]
  exact pI_c (and_congr_left (fun _ => and_congr_left (fun _ => LkM_m M t y c))) (fun _ => rfl)
theorem lasN_c {P Q : Int → Prop} : ∀ n : Nat, (∀ j : Int, 0 ≤ j → j < (n : Int) → (P j ↔ Q j)) → lasN P n = lasN Q n
  | 0, _ => rfl
  | n + 1, h => by
    have ih := lasN_c n (fun j a b => h j a (by omega))
    have e := h (n : Nat) (by omega) (by omega)
    by_cases z : P (n : Nat)
    · rw [lasN_t z, lasN_t (e.mp z)]
    · rw [lasN_f z, lasN_f (fun w => z (e.mpr w)), ih]
theorem lasN_i {P : Int → Prop} : ∀ n : Nat, (lasN P n = -1 ∧ ∀ c : Int, 0 ≤ c → c < (n : Int) → ¬ P c) ∨ ((0 ≤ lasN P n ∧ lasN P n < (n : Int)) ∧ P (lasN P n) ∧ ∀ c : Int, lasN P n < c → c < (n : Int) → ¬ P c)
  | 0 => Or.inl ⟨rfl, fun c a b => by omega⟩
  | n + 1 => by
    have ih := lasN_i (P := P) n
    by_cases z : P (n : Nat)
    · rw [lasN_t z]
      exact Or.inr ⟨⟨by omega, by omega⟩, z, fun c a b => by omega⟩
    · rw [lasN_f z]
      have last : ∀ c : Int, c < ((n + 1 : Nat) : Int) → ¬ c < (n : Int) → ¬ P c := fun c a b => by
        rw [show c = (n : Int) by omega]
        exact z
      rcases ih with ⟨i1, i2⟩ | ⟨i1, i2, i3⟩
      · refine Or.inl ⟨i1, fun c a b => ?_⟩
        by_cases q : c < (n : Int)
        · exact i2 c a q
        · exact last c b q
      · refine Or.inr ⟨⟨i1.1, by omega⟩, i2, fun c a b => ?_⟩
        by_cases q : c < (n : Int)
        · exact i3 c a q
        · exact last c b q
theorem lasN_x {P : Int → Prop} {N : Int} {m : Int} (n0 : 0 ≤ N) (M : isMx (fun c => (0 ≤ c ∧ c < N) ∧ P c) m) : m = lasN P N.toNat := by
  obtain ⟨m1, m2, m3⟩ := M
  rcases lasN_i (P := P) N.toNat with ⟨i1, i2⟩ | ⟨i1, i2, i3⟩
  · rcases m2 with e | ⟨b, p⟩
    · rw [e, i1]
    · exact absurd p (i2 m b.1 (by omega))
  · have a := m3 _ ⟨⟨i1.1, by omega⟩, i2⟩
    rcases m2 with e | ⟨b, p⟩
    · omega
    · by_cases q : lasN P N.toNat < m
      · exact absurd p (i3 m q (by omega))
      · omega
theorem kL_k {V W : vS} (M : agM V W) (t y f : Int) : kL W t y f = kL V t y f := by
  unfold kL
  rw [M.2.1]
  refine lasN_c _ (fun c _ _ => ?_)
  rw [M.1 87 c (by decide) (by decide)]
  exact and_congr_left (fun _ => LkM_m M t y c)


-- ===== one sum =====
-- what neither side's payment touches
def uf (V W : vS) : Prop := ∀ (c : Nat) j, (c < 40 ∨ (72 ≤ c ∧ c ≤ 102) ∨ (111 ≤ c ∧ c ≤ 123)) → (c ≠ 33 ∨ (j < 9 ∨ 14 < j)) → (c ≠ 72 ∨ (j ≠ 38 ∧ j ≠ 39 ∧ j ≠ 71 ∧ j ≠ 75)) → W c j = V c j
theorem uf_r (V : vS) : uf V V := fun _ _ _ _ _ => rfl
theorem uf_t {V V1 W : vS} (a : uf V V1) (b : uf V1 W) : uf V W := fun c j u v w => (b c j u v w).trans (a c j u v w)
theorem uf_s {V W : vS} (a : uf V W) : uf W V := fun c j u v w => (a c j u v w).symm
theorem uf_p {V W : vS} (a : uf V W) : pag V W := fun c j u v => a c j (Or.inl u) v (Or.inl (by omega))
theorem ag_u {V W : vS} (e : uf V W) : ∀ L : List (Nat × Option Nat), L.all (fun t => ((Nat.blt t.1 40 && !(Nat.beq t.1 33)) || (Nat.ble 73 t.1 && Nat.ble t.1 102) || (Nat.ble 111 t.1 && Nat.ble t.1 123)) || (match t.2 with | none => false | some i => (Nat.beq t.1 33 && (Nat.blt i 9 || Nat.blt 14 i)) || (Nat.beq t.1 72 && !(Nat.beq i 38) && !(Nat.beq i 39) && !(Nat.beq i 71) && !(Nat.beq i 75)))) = true → ag L V W
  | [], _ => trivial
  | (c, none) :: r, k => by
    rw [List.all_cons, Bool.and_eq_true] at k
    have k1 := k.1
    simp only [Bool.or_eq_true, Bool.and_eq_true, Nat.blt_eq, Nat.ble_eq, Bool.not_eq_true', Bool.or_false] at k1
    have n33 : c ≠ 33 := fun e => by rw [e] at k1; simp at k1
    exact ⟨fun j => e c j (by omega) (Or.inl n33) (Or.inl (by omega)), ag_u e r k.2⟩
  | (c, some i) :: r, k => by
    rw [List.all_cons, Bool.and_eq_true] at k
    have k1 := k.1
    simp only [Bool.or_eq_true, Bool.and_eq_true, Nat.blt_eq, Nat.ble_eq, Bool.not_eq_true', Nat.beq_eq_true_eq] at k1
    refine ⟨?_, ag_u e r k.2⟩
    have x38 : ((i : Nat) : Int) = 38 → c = 72 → False := fun a b => by
      have : i = 38 := by omega
      subst this b
      simp at k1
    have x39 : ((i : Nat) : Int) = 39 → c = 72 → False := fun a b => by
      have : i = 39 := by omega
      subst this b
      simp at k1
    have x71 : ((i : Nat) : Int) = 71 → c = 72 → False := fun a b => by
      have : i = 71 := by omega
      subst this b
      simp at k1
    have x75 : ((i : Nat) : Int) = 75 → c = 72 → False := fun a b => by
      have : i = 75 := by omega
      subst this b
      simp at k1
    have xc : (c < 40 ∨ (72 ≤ c ∧ c ≤ 102) ∨ (111 ≤ c ∧ c ≤ 123)) := by
      rcases k1 with ((⟨a, -⟩ | a) | a) | (⟨a, -⟩ | ⟨⟨⟨⟨a, -⟩, -⟩, -⟩, -⟩) <;> first | omega | (have := Nat.eq_of_beq_eq_true a; omega)
    refine e c _ xc ?_ ?_
    · by_cases z : c = 33
      · refine Or.inr ?_
        subst z
        simp at k1
        omega
      · exact Or.inl z
    · by_cases z : c = 72
      · exact Or.inr ⟨fun a => x38 a z, fun a => x39 a z, fun a => x71 a z, fun a => x75 a z⟩
      · exact Or.inl z
theorem uf_M {V W : vS} (a : uf V W) : agM V W := ⟨fun c j u v => a c j (by omega) (Or.inl (by omega)) (Or.inl (by omega)), a 72 19 (by decide) (Or.inl (by decide)) (by decide), a 72 25 (by decide) (Or.inl (by decide)) (by decide), a 72 32 (by decide) (Or.inl (by decide)) (by decide)⟩
theorem NMS_u {V W : vS} (e : uf V W) {f y t : Int} {A : Int → Int} (n : NMS V f y t A) : NMS W f y t A := by
  have M := uf_M e
  have e14 : W 72 14 = V 72 14 := e 72 14 (by decide) (Or.inl (by decide)) (by decide)
  have hd : ∀ b d k, mHold W b d k = mHold V b d k := mHold_f (fun c j u v => M.1 c j u v) e14
  have e72 : W 72 2 = V 72 2 := e 72 2 (by decide) (Or.inl (by decide)) (by decide)
  have e2 : ∀ j, W 2 j = V 2 j := fun j => e 2 j (by decide) (Or.inl (by decide)) (Or.inl (by decide))
  have e73 : ∀ j, W 73 j = V 73 j := fun j => M.1 73 j (by decide) (by decide)
  have e111 : ∀ j, W 111 j = V 111 j := fun j => e 111 j (by decide) (Or.inl (by decide)) (Or.inl (by decide))
  unfold NMS kEr mPrv at n ⊢
  simp only [kS_k M, kM_k M, kC_k M, kG_k M, kL_k M, hd, lt0_k (V := V) (W := W) M.1, e2, e73, e72, e111]
  exact n
theorem rkd_u {V V1 W : vS} {k : Int} (x : uf V V1) (RR : R239 V1 k W) : rkd V W k := by
  obtain ⟨⟨a, b, c⟩, d, e⟩ := rkd_R RR
  have M := uf_M x
  have e19 := M.2.1
  have e87 := fun i => M.1 87 i (by decide) (by decide)
  have e90 := fun i => M.1 90 i (by decide) (by decide)
  refine ⟨⟨a.trans e19, fun i => (b i).trans (e87 i), fun i => (c i).trans (e90 i)⟩, fun i u v => ?_, fun i u v mc y0 y1 => ?_⟩
  · rw [d i u (by rw [e19]; exact v)]
    exact bI_c (mcn_m M i _)
  · have r := e i u (by rw [e19]; exact v) ((mcn_m M i _).mpr mc) (by rw [e90]; exact y0) (by rw [e90]; exact y1)
    exact ⟨r.1.trans (vG_m M _ i), r.2.trans (vF_m M _ i)⟩
theorem AP_u {V W : vS} (e : uf V W) (A : AP V) : AP W := by
  obtain ⟨⟨C, B, Od, d, Rw, r8, r18⟩, O, K, ⟨N, O2, R⟩, l⟩ := A
  have x : ∀ (c : Nat) j, c < 33 → W c j = V c j := fun c j u => e c j (Or.inl (by omega)) (Or.inl (by omega)) (Or.inl (by omega))
  refine ⟨⟨JClm_ag C (ag_u e _ (by decide)), JBody_ag B (ag_u e _ (by decide)), JOrd_ag Od (ag_u e _ (by decide)), fun c => by rw [x 20 c (by decide)]; exact d c, JRows_ag Rw (ag_u e _ (by decide)), fun j => by rw [x 8 j (by decide)]; exact r8 j, fun j => by rw [x 18 j (by decide)]; exact r18 j⟩, JOut_ag O (ag_u e _ (by decide)), JCtl_ag K (ag_u e _ (by decide)), ⟨J30_ag N (ag_u e _ (by decide)), JOut2_ag O2 (ag_u e _ (by decide)), JR24_ag R (ag_u e _ (by decide))⟩, fun c c0 cN => ?_⟩
  rw [x 16 1 (by decide)] at cN
  rw [lt1_k x, l c c0 cN]
  exact (lt0_k (V := V) (uf_M e).1 c).symm
-- the base
def PB (V : vS) : Prop := AP V ∧ JPer V ∧ JHand V ∧ JMaj V ∧ (∀ j, 0 ≤ j → j < 1500 → V 111 j ≤ 2147483647) ∧ JTxt V ∧ JCode V ∧ (∀ j, 0 ≤ j → j < 2560 → -128 ≤ V 35 j ∧ V 35 j ≤ 127) ∧ (∀ j, 0 ≤ j → j < 150 → 0 ≤ V 74 j ∧ V 74 j ≤ 3) ∧ V 1 4 ≤ 150
theorem PB_u {V W : vS} (e : uf V W) (B : PB V) : PB W := by
  obtain ⟨A, P, H, M, r, T, C, b, l, p4⟩ := B
  have x : ∀ (c : Nat) j, c < 33 → W c j = V c j := fun c j u => e c j (Or.inl (by omega)) (Or.inl (by omega)) (Or.inl (by omega))
  have e111 : ∀ j, W 111 j = V 111 j := fun j => e 111 j (by decide) (Or.inl (by decide)) (Or.inl (by decide))
  refine ⟨AP_u e A, JPer_ag P (ag_u e _ (by decide)), JHand_ag H (ag_u e _ (by decide)), fun j => by rw [x 32 j (by decide), e111]; exact M j, fun j u v => by rw [e111]; exact r j u v, ?_, JCode_ag C (ag_u e _ (by decide)), fun j u v => by rw [e 35 j (by decide) (Or.inl (by decide)) (Or.inl (by decide))]; exact b j u v, fun j u v => by rw [(uf_M e).1 74 j (by decide) (by decide)]; exact l j u v, by rw [x 1 4 (by decide)]; exact p4⟩
  unfold JTxt at *
  rw [e 33 1 (by decide) (Or.inr (by decide)) (Or.inl (by decide)), e 72 54 (by decide) (Or.inl (by decide)) (by decide), e 33 7 (by decide) (Or.inr (by decide)) (Or.inl (by decide)), e 72 55 (by decide) (Or.inl (by decide)) (by decide)]
  refine ⟨T.1, fun j j0 j1 => ?_, T.2.2.1, fun i i0 i1 => ?_⟩
  · rw [e 34 j (by decide) (Or.inl (by decide)) (Or.inl (by decide)), e 115 j (by decide) (Or.inl (by decide)) (Or.inl (by decide))]
    exact T.2.1 j j0 j1
  · rw [e 37 i (by decide) (Or.inl (by decide)) (Or.inl (by decide)), e 38 i (by decide) (Or.inl (by decide)) (Or.inl (by decide)), e 39 i (by decide) (Or.inl (by decide)) (Or.inl (by decide)), e 116 i (by decide) (Or.inl (by decide)) (Or.inl (by decide)), e 117 i (by decide) (Or.inl (by decide)) (Or.inl (by decide)), e 118 i (by decide) (Or.inl (by decide)) (Or.inl (by decide))]
    exact T.2.2.2 i i0 i1
theorem PB_TX {V : vS} (B : PB V) : TX V := by
  obtain ⟨-, -, -, -, -, ⟨-, -, ⟨j5, j6, j7⟩, -⟩, C, b, -⟩ := B
  refine ⟨⟨j6, j7⟩, fun t t0 t1 => ?_⟩
  obtain ⟨c1, c2, ls, c3, c4⟩ := C t t0 t1
  have n := lAtR_n ls 0 0 c4
  exact ⟨⟨⟨t0, by omega⟩, c1, b⟩, ls, c3, by omega⟩
theorem PB_TM {V : vS} (B : PB V) : TMx V := by
  obtain ⟨-, -, -, -, -, T, C, -⟩ := B
  have j7 := T.2.2.1
  refine ⟨T, fun t t0 t1 => ?_⟩
  obtain ⟨c1, c2, ls, c3, c4⟩ := C t t0 t1
  exact ⟨⟨t0, by omega⟩, c2, ls, c3, c4⟩
theorem PB_275 {V : vS} (B : PB V) : p275 V := by
  obtain ⟨A, P, H, -, -, -, -, -, -, p4⟩ := B
  have Bd := A.1.2.1
  have h1 := H.1
  have h2 := H.2.2.2.2.2.2.1
  exact ⟨P, ⟨Bd.1.symm, Bd.2.2.2.2.2.1, Bd.2.2.2.2.2.2.1⟩, fun j => (Bd.2.1 j).symm, fun b u v w => ((Bd.2.2.2.2.2.2.2.2 b u v).2.2 w).symm, by omega, p4⟩
theorem PB_l {V : vS} (B : PB V) {f : Int} (h : cFarm V f) : (0 ≤ f ∧ f < 150) ∧ V 74 f = V 3 f ∧ 0 ≤ V 3 f ∧ V 3 f ≤ 3 := by
  obtain ⟨A, -, -, -, -, -, -, -, l, -⟩ := B
  have Bd := A.1.2.1
  have fb := cF_b Bd.2.2.2.2.2.2.1 h Bd.2.2.2.2.2.1
  have h1 := h.1
  unfold cBody at h1
  rw [w32_id (by have := Bd.2.2.2.2.2.1; omega) (by have := Bd.2.2.2.2.2.2.1; omega)] at h1
  have m := (Bd.2.2.2.2.2.2.2.2 f fb.1 (by omega)).1 h.2
  have k := l f fb.1 fb.2
  rw [← m] at k
  exact ⟨fb, m.symm, k⟩
-- the names, the sum
noncomputable def NMf (V : vS) (f y t : Int) : Int → Int := @dite _ (∃ N, NMS V f y t N) (Classical.propDecidable _) (fun h => Classical.choose h) (fun _ => fun _ => 0)
theorem NMf_e {V : vS} {f y t : Int} {N : Int → Int} (n : NMS V f y t N) : ∀ j, 0 ≤ j → j ≤ 12 → NMf V f y t j = N j := by
  unfold NMf
  have e : ∃ N, NMS V f y t N := ⟨N, n⟩
  rw [dif_pos e]
  exact NMS_e (Classical.choose_spec e) n
theorem NMf_u {V W : vS} (a : uf V W) (f y t : Int) : ∀ j, 0 ≤ j → j ≤ 12 → NMf W f y t j = NMf V f y t j := by
  by_cases e : ∃ N, NMS V f y t N
  · obtain ⟨N, n⟩ := e
    intro j u v
    rw [NMf_e n j u v, NMf_e (NMS_u a n) j u v]
  · have e' : ¬ ∃ N, NMS W f y t N := fun ⟨N, n⟩ => e ⟨N, NMS_u (uf_s a) n⟩
    intro j u v
    unfold NMf
    rw [dif_neg e, dif_neg e']
noncomputable def payF (V : vS) (f y t r : Int) : Int := p5F V (NMf V f y t) f y t r
theorem payF_u {V W : vS} (a : uf V W) (f y t r : Int) : payF W f y t r = payF V f y t r := p5_k (uf_p a) (NMf_u a f y t) f y t r
theorem PAIDf {V W : vS} (a : uf V W) {f y t r : Int} {N : Int → Int} (n : NMS V f y t N) {s : Int → Int} {fl : Int} (p : PAID W N f y t r s fl) : PAID V (NMf V f y t) f y t r s fl := PAID_k (uf_p (uf_s a)) (NMf_e n) p
def fr8c (V W : vS) : Prop := ∀ (c : Nat) j, c < 146 → c ≠ 42 → c ≠ 43 → c ≠ 44 → (c ≠ 33 ∨ (j < 9 ∨ 14 < j)) → c ≠ 45 → (c ≠ 41 ∨ j ≠ 7) → W c j = V c j
def fr8m (V W : vS) : Prop := ∀ (c : Nat) j, (c < 103 ∨ 110 < c) → (c < 124 ∨ 128 < c) → (c ≠ 72 ∨ (j ≠ 38 ∧ j ≠ 39 ∧ j ≠ 71 ∧ j ≠ 75)) → W c j = V c j
theorem fr8c_u {V W : vS} (a : fr8c V W) : uf V W := fun c j u v _ => a c j (by omega) (by omega) (by omega) (by omega) v (by omega) (Or.inl (by omega))
theorem fr8m_u {V W : vS} (a : fr8m V W) : uf V W := fun c j u _ w => a c j (by omega) (by omega) w
def pr8p (h : aH) (f y t r : Int) : Prop := IV h ∧ PB (vw h) ∧ cFarm (vw h) f ∧ (0 ≤ y ∧ y ≤ 9) ∧ (0 ≤ t ∧ t ≤ 3649) ∧ (r = -1 ∨ (0 ≤ r ∧ r < vw h 33 7))
def RP8 (h : aH) (f y t r v : Int) (h' : aH) : Prop := wS h' ∧ (IV h' ∧ uf (vw h) (vw h')) ∧ (v = payF (vw h) f y t r ∧ PAID (vw h) (NMf (vw h) f y t) f y t r (fun j => vw h' 45 j) (vw h' 41 7)) ∧ fr8c (vw h) (vw h')
def RP277 (h : aH) (f y t r v : Int) (h' : aH) : Prop := wS h' ∧ (IV h' ∧ uf (vw h) (vw h')) ∧ (v = payF (vw h) f y t r ∧ PAID (vw h) (NMf (vw h) f y t) f y t r (fun j => vw h' 128 j) (vw h' 72 75)) ∧ vw h' 128 0 = vw h' 128 5 ∧ fr8m (vw h) (vw h')
theorem c_8p {n : Nat} {X : aX} {h : aH} {x1 x2 x3 x4 : Int32} {a1 a2 a3 a4 : Int} (S : wS h) (z1 : x1.toInt = a1) (z2 : x2.toInt = a2) (z3 : x3.toInt = a3) (z4 : x4.toInt = a4) (hp : pr8p h a1 a2 a3 a4) : Pt n X zM8 0 [some (.ref 41), some (.int x1), some (.int x2), some (.int x3), some (.int x4), none, none, none, none, none] [] h (qI (fun v h' => RP8 h a1 a2 a3 a4 v h')) := by
  obtain ⟨I, B, hf, hy, ht, hr⟩ := hp
  obtain ⟨fb, -, l0, l3⟩ := PB_l B hf
  have Bd := B.1.1.2.1
  have b6 : vw h 1 6 ≤ 200 := B.2.2.1.2.2.2.2.2.2.1
  have b4 : vw h 1 4 ≤ 150 := B.2.2.2.2.2.2.2.2.2
  refine pt_q (c_8 S z1 z2 z3 z4 ⟨⟨⟨I, B.1⟩, fb, hy, b6, b4⟩, PB_TX B, ⟨l0, l3⟩, hr⟩) ?_
  rintro v h' ⟨x, ex, ⟨S', I'⟩, ⟨h1, R, p, ev⟩, fr⟩
  have u : uf (vw h) (vw h') := fr8c_u fr
  have nm := nms_c I B.1 B.2.1 B.2.2.1 B.2.2.2.1 fb hy ht B.2.2.2.2.1 R
  have p' := PAIDf (uf_r (vw h)) nm p
  exact ⟨x, ex, S', ⟨I', u⟩, ⟨ev.trans p'.1.2.2.2.2, p'⟩, fr⟩
theorem R277_m {V W : vS} {f y t r v : Int} (R : R277 V f y t r v W) : fr8m V W := by
  obtain ⟨W1, ⟨G, RR, F⟩, -, -, -, fr⟩ := R
  have A := RR.1.1
  intro c j u1 u2 u3
  rw [fr c j u2 (by omega), F.1 c j (by omega) (by omega)]
  exact A c j u1 (by omega)
theorem c_277p {n : Nat} {X : aX} {h : aH} {x1 x2 x3 x4 : Int32} {a1 a2 a3 a4 : Int} (S : wS h) (z1 : x1.toInt = a1) (z2 : x2.toInt = a2) (z3 : x3.toInt = a3) (z4 : x4.toInt = a4) (hp : pr8p h a1 a2 a3 a4) : Pt n X zM277 0 [some (.ref 72), some (.int x1), some (.int x2), some (.int x3), some (.int x4), none, none, none, none, none, none, none, none] [] h (qI (fun v h' => RP277 h a1 a2 a3 a4 v h')) := by
  obtain ⟨I, B, hf, hy, ht, hr⟩ := hp
  obtain ⟨fb, l⟩ := PB_l B hf
  have Bd := B.1.1.2.1
  have h1 := B.2.2.1.1
  have b6 : vw h 1 6 ≤ 200 := B.2.2.1.2.2.2.2.2.2.1
  refine pt_q (c_277 S z1 z2 z3 z4 ⟨⟨⟨I.2.2.2, ⟨by rw [← Bd.1]; exact Bd.2.2.2.2.2.1, by rw [← Bd.1]; exact Bd.2.2.2.2.2.2.1⟩, by omega, hy⟩, fb, PB_TM B, PB_275 B, l, B.2.2.1, Bd.2.2.2.2.1, hr⟩, I⟩) ?_
  rintro v h' ⟨x, ex, ⟨S', I'⟩, R⟩
  have fr := R277_m R
  obtain ⟨W1, ⟨G, RR, F⟩, p, ev, e0, -⟩ := R
  have AR := RR.1.1
  have nm := nms_m (W := W1) B.1 (rkd_u (uf_r (vw h)) RR) hy (fun c j a b => AR c j (Or.inl (by omega)) (Or.inl (by omega))) (AR 72 2 (Or.inl (by decide)) (Or.inr (by decide))) (AR 72 14 (Or.inl (by decide)) (Or.inr (by decide))) (fun j => AR 111 j (Or.inr (by decide)) (Or.inl (by decide))) F
  have p' := PAIDf (uf_r (vw h)) nm p
  exact ⟨x, ex, S', ⟨I', fr8m_u fr⟩, ⟨ev.trans p'.1.2.2.2.2, p'⟩, e0, fr⟩


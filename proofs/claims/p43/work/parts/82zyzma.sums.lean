-- ===== 82zyzma.sums: 5 texts =====
section
-- ===== one sum =====
-- what neither side's payment touches
def uf (V W : vS) : Prop := ∀ (c : Nat) j, (c < 40 ∨ (72 ≤ c ∧ c ≤ 102) ∨ (111 ≤ c ∧ c ≤ 123)) → (c ≠ 33 ∨ (j < 9 ∨ 14 < j)) → (c ≠ 72 ∨ (j ≠ 38 ∧ j ≠ 39 ∧ j ≠ 71 ∧ j ≠ 75)) → W c j = V c j
theorem uf_r (V : vS) : uf V V := fun _ _ _ _ _ => rfl
theorem uf_t {V V1 W : vS} (a : uf V V1) (b : uf V1 W) : uf V W := fun c j u v w => (b c j u v w).trans (a c j u v w)
theorem uf_s {V W : vS} (a : uf V W) : uf W V := fun c j u v w => (a c j u v w).symm
theorem uf_p {V W : vS} (a : uf V W) : pag V W := fun c j u v => a c j (Or.inl u) v (Or.inl (by omega))
theorem ag_u {V W : vS} (e : uf V W) : ∀ L : List (Nat × Option Nat), L.all (fun t => ((Nat.blt t.1 40 && !(Nat.beq t.1 33)) || (Nat.ble 73 t.1 && Nat.ble t.1 102) || (Nat.ble 111 t.1 && Nat.ble t.1 123)) || (match t.2 with | none => false | some i => (Nat.beq t.1 33 && (Nat.blt i 9 || Nat.blt 14 i)) || (Nat.beq t.1 72 && !(Nat.beq i 38) && !(Nat.beq i 39) && !(Nat.beq i 71) && !(Nat.beq i 75)))) = true → ag L V W
  | [], _ => trivial
  | (c, none) :: r, k => by
    rw [List.all_cons, Bool.and_eq_true] at k
    have k1 := k.1
    simp only [Bool.or_eq_true, Bool.and_eq_true, Nat.blt_eq, Nat.ble_eq, Bool.not_eq_true', Bool.or_false] at k1
    have n33 : c ≠ 33 := fun e => by rw [e] at k1; simp at k1
    exact ⟨fun j => e c j (by omega) (Or.inl n33) (Or.inl (by omega)), ag_u e r k.2⟩
  | (c, some i) :: r, k => by
    rw [List.all_cons, Bool.and_eq_true] at k
    have k1 := k.1
    simp only [Bool.or_eq_true, Bool.and_eq_true, Nat.blt_eq, Nat.ble_eq, Bool.not_eq_true', Nat.beq_eq_true_eq] at k1
    refine ⟨?_, ag_u e r k.2⟩
    have x38 : ((i : Nat) : Int) = 38 → c = 72 → False := fun a b => by
      have : i = 38 := by omega
      subst this b
      simp at k1
    have x39 : ((i : Nat) : Int) = 39 → c = 72 → False := fun a b => by
      have : i = 39 := by omega
      subst this b
      simp at k1
    have x71 : ((i : Nat) : Int) = 71 → c = 72 → False := fun a b => by
      have : i = 71 := by omega
      subst this b
      simp at k1
    have x75 : ((i : Nat) : Int) = 75 → c = 72 → False := fun a b => by
      have : i = 75 := by omega
      subst this b
      simp at k1
    have xc : (c < 40 ∨ (72 ≤ c ∧ c ≤ 102) ∨ (111 ≤ c ∧ c ≤ 123)) := by
      rcases k1 with ((⟨a, -⟩ | a) | a) | (⟨a, -⟩ | ⟨⟨⟨⟨a, -⟩, -⟩, -⟩, -⟩) <;> first | omega | (have := Nat.eq_of_beq_eq_true a; omega)
    refine e c _ xc ?_ ?_
    · by_cases z : c = 33
      · refine Or.inr ?_
        subst z
        simp at k1
        omega
      · exact Or.inl z
    · by_cases z : c = 72
      · exact Or.inr ⟨fun a => x38 a z, fun a => x39 a z, fun a => x71 a z, fun a => x75 a z⟩
      · exact Or.inl z
theorem uf_M {V W : vS} (a : uf V W) : agM V W := ⟨fun c j u v => a c j (by omega) (Or.inl (by omega)) (Or.inl (by omega)), a 72 19 (by decide) (Or.inl (by decide)) (by decide), a 72 25 (by decide) (Or.inl (by decide)) (by decide), a 72 32 (by decide) (Or.inl (by decide)) (by decide)⟩
theorem NMS_u {V W : vS} (e : uf V W) {f y t : Int} {A : Int → Int} (n : NMS V f y t A) : NMS W f y t A := by
  have M := uf_M e
  have e14 : W 72 14 = V 72 14 := e 72 14 (by decide) (Or.inl (by decide)) (by decide)
  have hd : ∀ b d k, mHold W b d k = mHold V b d k := mHold_f (fun c j u v => M.1 c j u v) e14
  have e72 : W 72 2 = V 72 2 := e 72 2 (by decide) (Or.inl (by decide)) (by decide)
  have e2 : ∀ j, W 2 j = V 2 j := fun j => e 2 j (by decide) (Or.inl (by decide)) (Or.inl (by decide))
  have e73 : ∀ j, W 73 j = V 73 j := fun j => M.1 73 j (by decide) (by decide)
  have e111 : ∀ j, W 111 j = V 111 j := fun j => e 111 j (by decide) (Or.inl (by decide)) (Or.inl (by decide))
  unfold NMS kEr mPrv at n ⊢
  simp only [kS_k M, kM_k M, kC_k M, kG_k M, kL_k M, hd, lt0_k (V := V) (W := W) M.1, e2, e73, e72, e111]
  exact n
theorem rkd_u {V V1 W : vS} {k : Int} (x : uf V V1) (RR : R239 V1 k W) : rkd V W k := by
  obtain ⟨⟨a, b, c⟩, d, e⟩ := rkd_R RR
  have M := uf_M x
  have e19 := M.2.1
  have e87 := fun i => M.1 87 i (by decide) (by decide)
  have e90 := fun i => M.1 90 i (by decide) (by decide)
  refine ⟨⟨a.trans e19, fun i => (b i).trans (e87 i), fun i => (c i).trans (e90 i)⟩, fun i u v => ?_, fun i u v mc y0 y1 => ?_⟩
  · rw [d i u (by rw [e19]; exact v)]
    exact bI_c (mcn_m M i _)
  · have r := e i u (by rw [e19]; exact v) ((mcn_m M i _).mpr mc) (by rw [e90]; exact y0) (by rw [e90]; exact y1)
    exact ⟨r.1.trans (vG_m M _ i), r.2.trans (vF_m M _ i)⟩
theorem AP_u {V W : vS} (e : uf V W) (A : AP V) : AP W := by
  obtain ⟨⟨C, B, Od, d, Rw, r8, r18⟩, O, K, ⟨N, O2, R⟩, l⟩ := A
  have x : ∀ (c : Nat) j, c < 33 → W c j = V c j := fun c j u => e c j (Or.inl (by omega)) (Or.inl (by omega)) (Or.inl (by omega))
  refine ⟨⟨JClm_ag C (ag_u e _ (by decide)), JBody_ag B (ag_u e _ (by decide)), JOrd_ag Od (ag_u e _ (by decide)), fun c => by rw [x 20 c (by decide)]; exact d c, JRows_ag Rw (ag_u e _ (by decide)), fun j => by rw [x 8 j (by decide)]; exact r8 j, fun j => by rw [x 18 j (by decide)]; exact r18 j⟩, JOut_ag O (ag_u e _ (by decide)), JCtl_ag K (ag_u e _ (by decide)), ⟨J30_ag N (ag_u e _ (by decide)), JOut2_ag O2 (ag_u e _ (by decide)), JR24_ag R (ag_u e _ (by decide))⟩, fun c c0 cN => ?_⟩
  rw [x 16 1 (by decide)] at cN
  rw [lt1_k x, l c c0 cN]
  exact (lt0_k (V := V) (uf_M e).1 c).symm
-- the base
def PB (V : vS) : Prop := AP V ∧ JPer V ∧ JHand V ∧ JMaj V ∧ (∀ j, 0 ≤ j → j < 1500 → V 111 j ≤ 2147483647) ∧ JTxt V ∧ JCode V ∧ (∀ j, 0 ≤ j → j < 2560 → -128 ≤ V 35 j ∧ V 35 j ≤ 127) ∧ (∀ j, 0 ≤ j → j < 150 → 0 ≤ V 74 j ∧ V 74 j ≤ 3) ∧ V 1 4 ≤ 150
theorem PB_u {V W : vS} (e : uf V W) (B : PB V) : PB W := by
  obtain ⟨A, P, H, M, r, T, C, b, l, p4⟩ := B
  have x : ∀ (c : Nat) j, c < 33 → W c j = V c j := fun c j u => e c j (Or.inl (by omega)) (Or.inl (by omega)) (Or.inl (by omega))
  have e111 : ∀ j, W 111 j = V 111 j := fun j => e 111 j (by decide) (Or.inl (by decide)) (Or.inl (by decide))
  refine ⟨AP_u e A, JPer_ag P (ag_u e _ (by decide)), JHand_ag H (ag_u e _ (by decide)), fun j => by rw [x 32 j (by decide), e111]; exact M j, fun j u v => by rw [e111]; exact r j u v, ?_, JCode_ag C (ag_u e _ (by decide)), fun j u v => by rw [e 35 j (by decide) (Or.inl (by decide)) (Or.inl (by decide))]; exact b j u v, fun j u v => by rw [(uf_M e).1 74 j (by decide) (by decide)]; exact l j u v, by rw [x 1 4 (by decide)]; exact p4⟩
  unfold JTxt at *
  rw [e 33 1 (by decide) (Or.inr (by decide)) (Or.inl (by decide)), e 72 54 (by decide) (Or.inl (by decide)) (by decide), e 33 7 (by decide) (Or.inr (by decide)) (Or.inl (by decide)), e 72 55 (by decide) (Or.inl (by decide)) (by decide)]
  refine ⟨T.1, fun j j0 j1 => ?_, T.2.2.1, fun i i0 i1 => ?_⟩
  · rw [e 34 j (by decide) (Or.inl (by decide)) (Or.inl (by decide)), e 115 j (by decide) (Or.inl (by decide)) (Or.inl (by decide))]
    exact T.2.1 j j0 j1
  · rw [e 37 i (by decide) (Or.inl (by decide)) (Or.inl (by decide)), e 38 i (by decide) (Or.inl (by decide)) (Or.inl (by decide)), e 39 i (by decide) (Or.inl (by decide)) (Or.inl (by decide)), e 116 i (by decide) (Or.inl (by decide)) (Or.inl (by decide)), e 117 i (by decide) (Or.inl (by decide)) (Or.inl (by decide)), e 118 i (by decide) (Or.inl (by decide)) (Or.inl (by decide))]
    exact T.2.2.2 i i0 i1
theorem PB_TX {V : vS} (B : PB V) : TX V := by
  obtain ⟨-, -, -, -, -, ⟨-, -, ⟨j5, j6, j7⟩, -⟩, C, b, -⟩ := B
  refine ⟨⟨j6, j7⟩, fun t t0 t1 => ?_⟩
  obtain ⟨c1, c2, ls, c3, c4⟩ := C t t0 t1
  have n := lAtR_n ls 0 0 c4
  exact ⟨⟨⟨t0, by omega⟩, c1, b⟩, ls, c3, by omega⟩
theorem PB_TM {V : vS} (B : PB V) : TMx V := by
  obtain ⟨-, -, -, -, -, T, C, -⟩ := B
  have j7 := T.2.2.1
  refine ⟨T, fun t t0 t1 => ?_⟩
  obtain ⟨c1, c2, ls, c3, c4⟩ := C t t0 t1
  exact ⟨⟨t0, by omega⟩, c2, ls, c3, c4⟩
theorem PB_275 {V : vS} (B : PB V) : p275 V := by
  obtain ⟨A, P, H, -, -, -, -, -, -, p4⟩ := B
  have Bd := A.1.2.1
  have h1 := H.1
  have h2 := H.2.2.2.2.2.2.1
  exact ⟨P, ⟨Bd.1.symm, Bd.2.2.2.2.2.1, Bd.2.2.2.2.2.2.1⟩, fun j => (Bd.2.1 j).symm, fun b u v w => ((Bd.2.2.2.2.2.2.2.2 b u v).2.2 w).symm, by omega, p4⟩
theorem PB_l {V : vS} (B : PB V) {f : Int} (h : cFarm V f) : (0 ≤ f ∧ f < 150) ∧ V 74 f = V 3 f ∧ 0 ≤ V 3 f ∧ V 3 f ≤ 3 := by
  obtain ⟨A, -, -, -, -, -, -, -, l, -⟩ := B
  have Bd := A.1.2.1
  have fb := cF_b Bd.2.2.2.2.2.2.1 h Bd.2.2.2.2.2.1
  have h1 := h.1
  unfold cBody at h1
  rw [w32_id (by have := Bd.2.2.2.2.2.1; omega) (by have := Bd.2.2.2.2.2.2.1; omega)] at h1
  have m := (Bd.2.2.2.2.2.2.2.2 f fb.1 (by omega)).1 h.2
  have k := l f fb.1 fb.2
  rw [← m] at k
  exact ⟨fb, m.symm, k⟩
-- the names, the sum
noncomputable def NMf (V : vS) (f y t : Int) : Int → Int := @dite _ (∃ N, NMS V f y t N) (Classical.propDecidable _) (fun h => Classical.choose h) (fun _ => fun _ => 0)
theorem NMf_e {V : vS} {f y t : Int} {N : Int → Int} (n : NMS V f y t N) : ∀ j, 0 ≤ j → j ≤ 12 → NMf V f y t j = N j := by
  unfold NMf
  have e : ∃ N, NMS V f y t N := ⟨N, n⟩
  rw [dif_pos e]
  exact NMS_e (Classical.choose_spec e) n
theorem NMf_u {V W : vS} (a : uf V W) (f y t : Int) : ∀ j, 0 ≤ j → j ≤ 12 → NMf W f y t j = NMf V f y t j := by
  by_cases e : ∃ N, NMS V f y t N
  · obtain ⟨N, n⟩ := e
    intro j u v
    rw [NMf_e n j u v, NMf_e (NMS_u a n) j u v]
  · have e' : ¬ ∃ N, NMS W f y t N := fun ⟨N, n⟩ => e ⟨N, NMS_u (uf_s a) n⟩
    intro j u v
    unfold NMf
    rw [dif_neg e, dif_neg e']
noncomputable def payF (V : vS) (f y t r : Int) : Int := p5F V (NMf V f y t) f y t r
theorem payF_u {V W : vS} (a : uf V W) (f y t r : Int) : payF W f y t r = payF V f y t r := p5_k (uf_p a) (NMf_u a f y t) f y t r
theorem PAIDf {V W : vS} (a : uf V W) {f y t r : Int} {N : Int → Int} (n : NMS V f y t N) {s : Int → Int} {fl : Int} (p : PAID W N f y t r s fl) : PAID V (NMf V f y t) f y t r s fl := PAID_k (uf_p (uf_s a)) (NMf_e n) p
def fr8c (V W : vS) : Prop := ∀ (c : Nat) j, c < 146 → c ≠ 42 → c ≠ 43 → c ≠ 44 → (c ≠ 33 ∨ (j < 9 ∨ 14 < j)) → c ≠ 45 → (c ≠ 41 ∨ j ≠ 7) → W c j = V c j
def fr8m (V W : vS) : Prop := ∀ (c : Nat) j, (c < 103 ∨ 110 < c) → (c < 124 ∨ 128 < c) → (c ≠ 72 ∨ (j ≠ 38 ∧ j ≠ 39 ∧ j ≠ 71 ∧ j ≠ 75)) → W c j = V c j
theorem fr8c_u {V W : vS} (a : fr8c V W) : uf V W := fun c j u v _ => a c j (by omega) (by omega) (by omega) (by omega) v (by omega) (Or.inl (by omega))
theorem fr8m_u {V W : vS} (a : fr8m V W) : uf V W := fun c j u _ w => a c j (by omega) (by omega) w
def pr8p (h : aH) (f y t r : Int) : Prop := IV h ∧ PB (vw h) ∧ cFarm (vw h) f ∧ (0 ≤ y ∧ y ≤ 9) ∧ (0 ≤ t ∧ t ≤ 3649) ∧ (r = -1 ∨ (0 ≤ r ∧ r < vw h 33 7))
def RP8 (h : aH) (f y t r v : Int) (h' : aH) : Prop := wS h' ∧ (IV h' ∧ uf (vw h) (vw h')) ∧ (v = payF (vw h) f y t r ∧ PAID (vw h) (NMf (vw h) f y t) f y t r (fun j => vw h' 45 j) (vw h' 41 7)) ∧ fr8c (vw h) (vw h')
def RP277 (h : aH) (f y t r v : Int) (h' : aH) : Prop := wS h' ∧ (IV h' ∧ uf (vw h) (vw h')) ∧ (v = payF (vw h) f y t r ∧ PAID (vw h) (NMf (vw h) f y t) f y t r (fun j => vw h' 128 j) (vw h' 72 75)) ∧ vw h' 128 0 = vw h' 128 5 ∧ fr8m (vw h) (vw h')
theorem c_8p {n : Nat} {X : aX} {h : aH} {x1 x2 x3 x4 : Int32} {a1 a2 a3 a4 : Int} (S : wS h) (z1 : x1.toInt = a1) (z2 : x2.toInt = a2) (z3 : x3.toInt = a3) (z4 : x4.toInt = a4) (hp : pr8p h a1 a2 a3 a4) : Pt n X zM8 0 [some (.ref 41), some (.int x1), some (.int x2), some (.int x3), some (.int x4), none, none, none, none, none] [] h (qI (fun v h' => RP8 h a1 a2 a3 a4 v h')) := by
  obtain ⟨I, B, hf, hy, ht, hr⟩ := hp
  obtain ⟨fb, -, l0, l3⟩ := PB_l B hf
  have Bd := B.1.1.2.1
  have b6 : vw h 1 6 ≤ 200 := B.2.2.1.2.2.2.2.2.2.1
  have b4 : vw h 1 4 ≤ 150 := B.2.2.2.2.2.2.2.2.2
  refine pt_q (c_8 S z1 z2 z3 z4 ⟨⟨⟨I, B.1⟩, fb, hy, b6, b4⟩, PB_TX B, ⟨l0, l3⟩, hr⟩) ?_
  rintro v h' ⟨x, ex, ⟨S', I'⟩, ⟨h1, R, p, ev⟩, fr⟩
  have u : uf (vw h) (vw h') := fr8c_u fr
  have nm := nms_c I B.1 B.2.1 B.2.2.1 B.2.2.2.1 fb hy ht B.2.2.2.2.1 R
  have p' := PAIDf (uf_r (vw h)) nm p
  exact ⟨x, ex, S', ⟨I', u⟩, ⟨ev.trans p'.1.2.2.2.2, p'⟩, fr⟩
theorem R277_m {V W : vS} {f y t r v : Int} (R : R277 V f y t r v W) : fr8m V W := by
  obtain ⟨W1, ⟨G, RR, F⟩, -, -, -, fr⟩ := R
  have A := RR.1.1
  intro c j u1 u2 u3
  rw [fr c j u2 (by omega), F.1 c j (by omega) (by omega)]
  exact A c j u1 (by omega)
theorem c_277p {n : Nat} {X : aX} {h : aH} {x1 x2 x3 x4 : Int32} {a1 a2 a3 a4 : Int} (S : wS h) (z1 : x1.toInt = a1) (z2 : x2.toInt = a2) (z3 : x3.toInt = a3) (z4 : x4.toInt = a4) (hp : pr8p h a1 a2 a3 a4) : Pt n X zM277 0 [some (.ref 72), some (.int x1), some (.int x2), some (.int x3), some (.int x4), none, none, none, none, none, none, none, none] [] h (qI (fun v h' => RP277 h a1 a2 a3 a4 v h')) := by
  obtain ⟨I, B, hf, hy, ht, hr⟩ := hp
  obtain ⟨fb, l⟩ := PB_l B hf
  have Bd := B.1.1.2.1
  have h1 := B.2.2.1.1
  have b6 : vw h 1 6 ≤ 200 := B.2.2.1.2.2.2.2.2.2.1
  refine pt_q (c_277 S z1 z2 z3 z4 ⟨⟨⟨I.2.2.2, ⟨by rw [← Bd.1]; exact Bd.2.2.2.2.2.1, by rw [← Bd.1]; exact Bd.2.2.2.2.2.2.1⟩, by omega, hy⟩, fb, PB_TM B, PB_275 B, l, B.2.2.1, Bd.2.2.2.2.1, hr⟩, I⟩) ?_
  rintro v h' ⟨x, ex, ⟨S', I'⟩, R⟩
  have fr := R277_m R
  obtain ⟨W1, ⟨G, RR, F⟩, p, ev, e0, -⟩ := R
  have AR := RR.1.1
  have nm := nms_m (W := W1) B.1 (rkd_u (uf_r (vw h)) RR) hy (fun c j a b => AR c j (Or.inl (by omega)) (Or.inl (by omega))) (AR 72 2 (Or.inl (by decide)) (Or.inr (by decide))) (AR 72 14 (Or.inl (by decide)) (Or.inr (by decide))) (fun j => AR 111 j (Or.inr (by decide)) (Or.inl (by decide))) F
  have p' := PAIDf (uf_r (vw h)) nm p
  exact ⟨x, ex, S', ⟨I', fr8m_u fr⟩, ⟨ev.trans p'.1.2.2.2.2, p'⟩, e0, fr⟩
end
section
-- ===== one sum =====
theorem d171_0 {n : Nat} {X : aX} {h : aH} {P : Int → aH → Prop} {x1 x2 x3 x4 : Int32} {a1 a2 a3 a4 : Int} (S : wS h) (z1 : x1.toInt = a1) (z2 : x2.toInt = a2) (z3 : x3.toInt = a3) (z4 : x4.toInt = a4) (H : ((¬ (cFarm (vw h) a1) → P (-2000000000) h) ∧ ((cFarm (vw h) a1) → ((¬ (0 ≤ a2 ∧ a2 ≤ 9) → P (-2000000000) h) ∧ ((0 ≤ a2 ∧ a2 ≤ 9) → ((¬ (0 ≤ a3 ∧ a3 ≤ 3649) → P (-2000000000) h) ∧ ((0 ≤ a3 ∧ a3 ≤ 3649) → (((0 ≤ a4 ∧ a4 ≤ 6) → ((pr8p h a1 a2 a3 (-1)) ∧ ∀ (y17 : Int) (h_17 : aH), (RP8 h a1 a2 a3 (-1) y17 h_17) → ((a4 ≠ 0 → ((a4 ≠ 6 → (0 ≤ a4 → a4 < 6 → P (vw h_17 45 a4) h_17)) ∧ (a4 = 6 → P (vw h_17 41 7) h_17))) ∧ (a4 = 0 → P y17 h_17)))) ∧ (¬ (0 ≤ a4 ∧ a4 ≤ 6) → P (-2000000000) h))))))))) : Pt (n + 1) X zM171 0 [some (.ref 0), some (.int x1), some (.int x2), some (.int x3), some (.int x4), none] [] h (qI P) := by
  refine pt_1 (fun n d => r_aloadn gx171_0 rfl) ?_
  refine pt_d (pt_getR gx171_1 S tr_0_0 ?_)
  refine pt_d (pt_1 (fun n d => r_iloadn gx171_4 rfl) ?_)
  refine pt_d (pt_virt (as := [.int x1]) (r := []) gx171_5 rfl (show zmt[75]? = some zM75 from rfl) rfl rfl rfl rfl (c_75 S z1) (kqP (fun v2 h2 => ?_)))
  show Pt _ _ _ 8 _ [.int v2] _ _
  refine pt_d (pt_ifB_eq gx171_8 h2 (fun e3 => ?_) (fun e3 => ?_))
  · have H := H.1 e3
    refine pt_d (pt_ldc (c := (-2000000000)) gx171_36 rfl (fun v4 h4 => ?_))
    exact pt_d (pt_iret gx171_38 ⟨_, rfl, by rw [h4]; exact H⟩)
  · have H := H.2 e3
    refine pt_d (pt_1 (fun n d => r_iloadn gx171_11 rfl) ?_)
    refine pt_d (pt_stat (as := [.int x2]) (r := []) gx171_12 rfl (show zmt[139]? = some zM139 from rfl) rfl rfl rfl rfl (c_139 S z2) (kqP (fun v5 h5 => ?_)))
    show Pt _ _ _ 15 _ [.int v5] _ _
    refine pt_d (pt_ifB_eq gx171_15 h5 (fun e6 => ?_) (fun e6 => ?_))
    · have H := H.1 e6
      refine pt_d (pt_ldc (c := (-2000000000)) gx171_36 rfl (fun v7 h7 => ?_))
      exact pt_d (pt_iret gx171_38 ⟨_, rfl, by rw [h7]; exact H⟩)
    · have H := H.2 e6
      refine pt_d (pt_1 (fun n d => r_iloadn gx171_18 rfl) ?_)
      refine pt_d (pt_stat (as := [.int x3]) (r := []) gx171_19 rfl (show zmt[138]? = some zM138 from rfl) rfl rfl rfl rfl (c_138 S z3) (kqP (fun v8 h8 => ?_)))
      show Pt _ _ _ 22 _ [.int v8] _ _
      refine pt_d (pt_ifB_eq gx171_22 h8 (fun e9 => ?_) (fun e9 => ?_))
      · have H := H.1 e9
        refine pt_d (pt_ldc (c := (-2000000000)) gx171_36 rfl (fun v10 h10 => ?_))
        exact pt_d (pt_iret gx171_38 ⟨_, rfl, by rw [h10]; exact H⟩)
      · have H := H.2 e9
        refine pt_d (pt_1 (fun n d => r_iload gx171_25 rfl) ?_)
        refine pt_d (pt_iconst gx171_27 (fun v11 h11 => ?_))
        refine pt_d (pt_bipush gx171_28 (fun v12 h12 => ?_))
        refine pt_d (pt_stat (as := [.int x4, .int v11, .int v12]) (r := []) gx171_30 rfl (show zmt[137]? = some zM137 from rfl) rfl rfl rfl rfl (c_137 S z4 h11 h12) (kqP (fun v13 h13 => ?_)))
        show Pt _ _ _ 33 _ [.int v13] _ _
        refine pt_d (pt_ifB_ne gx171_33 h13 (fun e14 => ?_) (fun e14 => ?_))
        · have H := H.1 e14
          refine pt_d (pt_1 (fun n d => r_aloadn gx171_39 rfl) ?_)
          refine pt_d (pt_getR gx171_40 S tr_0_4 ?_)
          refine pt_d (pt_1 (fun n d => r_iloadn gx171_43 rfl) ?_)
          refine pt_d (pt_1 (fun n d => r_iloadn gx171_44 rfl) ?_)
          refine pt_d (pt_1 (fun n d => r_iloadn gx171_45 rfl) ?_)
          refine pt_d (pt_iconst gx171_46 (fun v16 h16 => ?_))
          obtain ⟨pr17, H⟩ := H
          refine pt_d (pt_virt (as := [.int x1, .int x2, .int x3, .int v16]) (r := []) gx171_47 rfl (show zmt[8]? = some zM8 from rfl) rfl rfl rfl rfl (c_8p S z1 z2 z3 h16 pr17) (kqI (fun v17 y17 h_17 h17 P17 => ?_)))
          have S17 := P17.1
          have H := H y17 h_17 P17
          show Pt _ _ _ 50 _ [.int v17] _ _
          refine pt_d (pt_1 (fun n d => r_istore (L' := [some (.ref 0), some (.int x1), some (.int x2), some (.int x3), some (.int x4), some (.int v17)]) gx171_50 rfl rfl) ?_)
          refine pt_d (pt_1 (fun n d => r_iload gx171_52 rfl) ?_)
          refine pt_d (pt_if_ne gx171_54 z4 (fun e18 => ?_) (fun e18 => ?_))
          · have H := H.1 e18
            refine pt_d (pt_1 (fun n d => r_iload gx171_60 rfl) ?_)
            refine pt_d (pt_bipush gx171_62 (fun v19 h19 => ?_))
            refine pt_d (pt_icmp_ne gx171_64 z4 h19 (fun e20 => ?_) (fun e20 => ?_))
            · have H := H.1 e20
              refine pt_d (pt_1 (fun n d => r_aloadn gx171_77 rfl) ?_)
              refine pt_d (pt_getR gx171_78 S17 tr_0_4 ?_)
              refine pt_d (pt_getR gx171_81 S17 tr_41_6 ?_)
              refine pt_d (pt_1 (fun n d => r_iload gx171_84 rfl) ?_)
              refine pt_d (pt_iald (N' := 6) gx171_86 S17 tl_45 z4 (fun v23 p23 q23 h23 => ?_))
              have H := H p23 q23
              exact pt_d (pt_iret gx171_87 ⟨_, rfl, by rw [h23]; exact H⟩)
            · have H := H.2 e20
              refine pt_d (pt_1 (fun n d => r_aloadn gx171_67 rfl) ?_)
              refine pt_d (pt_getR gx171_68 S17 tr_0_4 ?_)
              refine pt_d (pt_getI (B := 7) gx171_71 S17 (fun v25 h25 => ?_))
              refine pt_d (pt_1 (fun n d => r_goto gx171_74) ?_)
              exact pt_d (pt_iret gx171_87 ⟨_, rfl, by rw [h25]; exact H⟩)
          · have H := H.2 e18
            refine pt_d (pt_1 (fun n d => r_iload gx171_57 rfl) ?_)
            exact pt_d (pt_iret gx171_59 ⟨_, rfl, by rw [h17]; exact H⟩)
        · have H := H.2 e14
          refine pt_d (pt_ldc (c := (-2000000000)) gx171_36 rfl (fun v26 h26 => ?_))
          exact pt_d (pt_iret gx171_38 ⟨_, rfl, by rw [h26]; exact H⟩)
theorem d278_0 {n : Nat} {X : aX} {h : aH} {P : Int → aH → Prop} {x1 x2 x3 x4 : Int32} {a1 a2 a3 a4 : Int} (S : wS h) (z1 : x1.toInt = a1) (z2 : x2.toInt = a2) (z3 : x3.toInt = a3) (z4 : x4.toInt = a4) (H : ((¬ (mFarm (vw h) a1) → P (-2000000000) h) ∧ ((mFarm (vw h) a1) → ((¬ (0 ≤ a2 ∧ a2 ≤ 9) → P (-2000000000) h) ∧ ((0 ≤ a2 ∧ a2 ≤ 9) → ((¬ (0 ≤ a3 ∧ a3 ≤ 3649) → P (-2000000000) h) ∧ ((0 ≤ a3 ∧ a3 ≤ 3649) → (((0 ≤ a4 ∧ a4 ≤ 6) → ((pr8p h a1 a2 a3 (-1)) ∧ ∀ (y15 : Int) (h_15 : aH), (RP277 h a1 a2 a3 (-1) y15 h_15) → ((a4 ≠ 6 → (0 ≤ a4 → a4 < 6 → P (vw h_15 128 a4) h_15)) ∧ (a4 = 6 → P (vw h_15 72 75) h_15)))) ∧ (¬ (0 ≤ a4 ∧ a4 ≤ 6) → P (-2000000000) h))))))))) : Pt (n + 1) X zM278 0 [some (.ref 72), some (.int x1), some (.int x2), some (.int x3), some (.int x4)] [] h (qI P) := by
  refine pt_1 (fun n d => r_aloadn gx278_0 rfl) ?_
  refine pt_d (pt_1 (fun n d => r_iloadn gx278_1 rfl) ?_)
  refine pt_d (pt_virt (as := [.int x1]) (r := []) gx278_2 rfl (show zmt[202]? = some zM202 from rfl) rfl rfl rfl rfl (c_202 S z1) (kqP (fun v1 h1 => ?_)))
  show Pt _ _ _ 5 _ [.int v1] _ _
  refine pt_d (pt_ifB_eq gx278_5 h1 (fun e2 => ?_) (fun e2 => ?_))
  · have H := H.1 e2
    refine pt_d (pt_ldc_w (c := (-2000000000)) gx278_33 rfl (fun v3 h3 => ?_))
    exact pt_d (pt_iret gx278_36 ⟨_, rfl, by rw [h3]; exact H⟩)
  · have H := H.2 e2
    refine pt_d (pt_1 (fun n d => r_iloadn gx278_8 rfl) ?_)
    refine pt_d (pt_stat (as := [.int x2]) (r := []) gx278_9 rfl (show zmt[198]? = some zM198 from rfl) rfl rfl rfl rfl (c_198 S z2) (kqP (fun v4 h4 => ?_)))
    show Pt _ _ _ 12 _ [.int v4] _ _
    refine pt_d (pt_ifB_eq gx278_12 h4 (fun e5 => ?_) (fun e5 => ?_))
    · have H := H.1 e5
      refine pt_d (pt_ldc_w (c := (-2000000000)) gx278_33 rfl (fun v6 h6 => ?_))
      exact pt_d (pt_iret gx278_36 ⟨_, rfl, by rw [h6]; exact H⟩)
    · have H := H.2 e5
      refine pt_d (pt_1 (fun n d => r_iloadn gx278_15 rfl) ?_)
      refine pt_d (pt_stat (as := [.int x3]) (r := []) gx278_16 rfl (show zmt[197]? = some zM197 from rfl) rfl rfl rfl rfl (c_197 S z3) (kqP (fun v7 h7 => ?_)))
      show Pt _ _ _ 19 _ [.int v7] _ _
      refine pt_d (pt_ifB_eq gx278_19 h7 (fun e8 => ?_) (fun e8 => ?_))
      · have H := H.1 e8
        refine pt_d (pt_ldc_w (c := (-2000000000)) gx278_33 rfl (fun v9 h9 => ?_))
        exact pt_d (pt_iret gx278_36 ⟨_, rfl, by rw [h9]; exact H⟩)
      · have H := H.2 e8
        refine pt_d (pt_1 (fun n d => r_iload gx278_22 rfl) ?_)
        refine pt_d (pt_iconst gx278_24 (fun v10 h10 => ?_))
        refine pt_d (pt_bipush gx278_25 (fun v11 h11 => ?_))
        refine pt_d (pt_stat (as := [.int x4, .int v10, .int v11]) (r := []) gx278_27 rfl (show zmt[196]? = some zM196 from rfl) rfl rfl rfl rfl (c_196 S z4 h10 h11) (kqP (fun v12 h12 => ?_)))
        show Pt _ _ _ 30 _ [.int v12] _ _
        refine pt_d (pt_ifB_ne gx278_30 h12 (fun e13 => ?_) (fun e13 => ?_))
        · have H := H.1 e13
          refine pt_d (pt_1 (fun n d => r_aloadn gx278_37 rfl) ?_)
          refine pt_d (pt_1 (fun n d => r_iloadn gx278_38 rfl) ?_)
          refine pt_d (pt_1 (fun n d => r_iloadn gx278_39 rfl) ?_)
          refine pt_d (pt_1 (fun n d => r_iloadn gx278_40 rfl) ?_)
          refine pt_d (pt_iconst gx278_41 (fun v14 h14 => ?_))
          obtain ⟨pr15, H⟩ := H
          refine pt_d (pt_virt (as := [.int x1, .int x2, .int x3, .int v14]) (r := []) gx278_42 rfl (show zmt[277]? = some zM277 from rfl) rfl rfl rfl rfl (c_277p S z1 z2 z3 h14 pr15) (kqI (fun v15 y15 h_15 h15 P15 => ?_)))
          have S15 := P15.1
          have H := H y15 h_15 P15
          show Pt _ _ _ 45 _ [.int v15] _ _
          refine pt_d (pt_1 (fun n d => r_pop gx278_45 rfl) ?_)
          refine pt_d (pt_1 (fun n d => r_iload gx278_46 rfl) ?_)
          refine pt_d (pt_bipush gx278_48 (fun v16 h16 => ?_))
          refine pt_d (pt_icmp_ne gx278_50 z4 h16 (fun e17 => ?_) (fun e17 => ?_))
          · have H := H.1 e17
            refine pt_d (pt_1 (fun n d => r_aloadn gx278_60 rfl) ?_)
            refine pt_d (pt_getR gx278_61 S15 tr_72_74 ?_)
            refine pt_d (pt_1 (fun n d => r_iload gx278_64 rfl) ?_)
            refine pt_d (pt_iald (N' := 6) gx278_66 S15 tl_128 z4 (fun v19 p19 q19 h19 => ?_))
            have H := H p19 q19
            exact pt_d (pt_iret gx278_67 ⟨_, rfl, by rw [h19]; exact H⟩)
          · have H := H.2 e17
            refine pt_d (pt_1 (fun n d => r_aloadn gx278_53 rfl) ?_)
            refine pt_d (pt_getI (B := 75) gx278_54 S15 (fun v20 h20 => ?_))
            refine pt_d (pt_1 (fun n d => r_goto gx278_57) ?_)
            exact pt_d (pt_iret gx278_67 ⟨_, rfl, by rw [h20]; exact H⟩)
        · have H := H.2 e13
          refine pt_d (pt_ldc_w (c := (-2000000000)) gx278_33 rfl (fun v21 h21 => ?_))
          exact pt_d (pt_iret gx278_36 ⟨_, rfl, by rw [h21]; exact H⟩)
def okP (V : vS) (f y t m : Int) : Prop := cFarm V f ∧ (0 ≤ y ∧ y ≤ 9) ∧ (0 ≤ t ∧ t ≤ 3649) ∧ 0 ≤ m ∧ m ≤ 6
def sP (s : Int → Int) (fl m : Int) : Int := if m = 6 then fl else if m = 0 then s 5 else s m
def R171 (V V' : vS) (f y t m r : Int) (W : vS) : Prop := (¬ okP V f y t m ∧ r = -2000000000 ∧ W = V') ∨ (okP V f y t m ∧ ∃ s fl, PAID V (NMf V f y t) f y t (-1) s fl ∧ r = sP s fl m ∧ uf V W)
theorem c_171w {n : Nat} {X : aX} {h : aH} {x1 x2 x3 x4 : Int32} {a1 a2 a3 a4 : Int} (S : wS h) (z1 : x1.toInt = a1) (z2 : x2.toInt = a2) (z3 : x3.toInt = a3) (z4 : x4.toInt = a4) (I : IV h) (B : PB (vw h)) : Pt n X zM171 0 [some (.ref 0), some (.int x1), some (.int x2), some (.int x3), some (.int x4), none] [] h (qI (fun r h' => R171 (vw h) (vw h) a1 a2 a3 a4 r (vw h') ∧ IV h')) := by
  have bad : ¬ okP (vw h) a1 a2 a3 a4 → R171 (vw h) (vw h) a1 a2 a3 a4 (-2000000000) (vw h) ∧ IV h := fun z => ⟨Or.inl ⟨z, rfl, rfl⟩, I⟩
  refine pt_d (d171_0 S z1 z2 z3 z4 ⟨fun e => bad (fun z => e z.1), fun e1 => ⟨fun e => bad (fun z => e z.2.1), fun e2 => ⟨fun e => bad (fun z => e z.2.2.1), fun e3 => ⟨fun e4 => ⟨⟨I, B, e1, e2, e3, Or.inl rfl⟩, fun y17 h17 k => ?_⟩, fun e => bad (fun z => e z.2.2.2)⟩⟩⟩⟩)
  obtain ⟨-, ⟨I', u⟩, ⟨ev, p⟩, -⟩ := k
  have good : ∀ r, r = sP (fun j => vw h17 45 j) (vw h17 41 7) a4 → R171 (vw h) (vw h) a1 a2 a3 a4 r (vw h17) ∧ IV h17 := fun r e => ⟨Or.inr ⟨⟨e1, e2, e3, e4⟩, _, _, p, e, u⟩, I'⟩
  refine ⟨fun n0 => ⟨fun n6 _ _ => good _ ?_, fun e6 => good _ ?_⟩, fun e0 => good _ ?_⟩
  · unfold sP
    rw [if_neg n6, if_neg n0]
  · unfold sP
    rw [if_pos e6]
  · unfold sP
    rw [if_neg (by omega), if_pos e0, ev]
    exact p.1.2.2.2.2.symm
def oPM (V : vS) (f y t m : Int) : Prop := mFarm V f ∧ (0 ≤ y ∧ y ≤ 9) ∧ (0 ≤ t ∧ t ≤ 3649) ∧ 0 ≤ m ∧ m ≤ 6
theorem okP_m {V : vS} (B : JBody V) (f y t m : Int) : oPM V f y t m ↔ okP V f y t m := by
  unfold oPM okP
  rw [farm_j B]
theorem c_278w {n : Nat} {X : aX} {h : aH} {x1 x2 x3 x4 : Int32} {a1 a2 a3 a4 : Int} (S : wS h) (z1 : x1.toInt = a1) (z2 : x2.toInt = a2) (z3 : x3.toInt = a3) (z4 : x4.toInt = a4) (I : IV h) (B : PB (vw h)) : Pt n X zM278 0 [some (.ref 72), some (.int x1), some (.int x2), some (.int x3), some (.int x4)] [] h (qI (fun r h' => R171 (vw h) (vw h) a1 a2 a3 a4 r (vw h') ∧ IV h')) := by
  have Bd := B.1.1.2.1
  have bad : ¬ oPM (vw h) a1 a2 a3 a4 → R171 (vw h) (vw h) a1 a2 a3 a4 (-2000000000) (vw h) ∧ IV h := fun z => ⟨Or.inl ⟨fun w => z ((okP_m Bd _ _ _ _).mpr w), rfl, rfl⟩, I⟩
  refine pt_d (d278_0 S z1 z2 z3 z4 ⟨fun e => bad (fun z => e z.1), fun e1 => ⟨fun e => bad (fun z => e z.2.1), fun e2 => ⟨fun e => bad (fun z => e z.2.2.1), fun e3 => ⟨fun e4 => ⟨⟨I, B, (farm_j Bd a1).mpr e1, e2, e3, Or.inl rfl⟩, fun y17 h17 k => ?_⟩, fun e => bad (fun z => e z.2.2.2)⟩⟩⟩⟩)
  obtain ⟨-, ⟨I', u⟩, ⟨ev, p⟩, e05, -⟩ := k
  have good : ∀ r, r = sP (fun j => vw h17 128 j) (vw h17 72 75) a4 → R171 (vw h) (vw h) a1 a2 a3 a4 r (vw h17) ∧ IV h17 := fun r e => ⟨Or.inr ⟨(okP_m Bd _ _ _ _).mp ⟨e1, e2, e3, e4⟩, _, _, p, e, u⟩, I'⟩
  refine ⟨fun n6 _ _ => good _ ?_, fun e6 => good _ ?_⟩
  · unfold sP
    rw [if_neg n6]
    by_cases z : a4 = 0
    · rw [if_pos z, z]
      exact e05
    · rw [if_neg z]
  · unfold sP
    rw [if_pos e6]
theorem PAID_q {V : vS} {N : Int → Int} {f y t r : Int} {s s' : Int → Int} {fl fl' m : Int} (a : PAID V N f y t r s fl) (b : PAID V N f y t r s' fl') (h : 0 ≤ m ∧ m ≤ 6) : sP s fl m = sP s' fl' m := by
  obtain ⟨⟨a1, a2, a3, a4, a5⟩, a6⟩ := a
  obtain ⟨⟨b1, b2, b3, b4, b5⟩, b6⟩ := b
  unfold sP
  by_cases z6 : m = 6
  · rw [if_pos z6, if_pos z6, a6, b6]
  rw [if_neg z6, if_neg z6]
  by_cases z0 : m = 0
  · rw [if_pos z0, if_pos z0, a5, b5]
  rw [if_neg z0, if_neg z0]
  obtain z | z | z | z | z : m = 1 ∨ m = 2 ∨ m = 3 ∨ m = 4 ∨ m = 5 := by omega
  all_goals (rw [z])
  · exact a1.trans b1.symm
  · exact a2.trans b2.symm
  · exact a3.trans b3.symm
  · exact a4.trans b4.symm
  · exact a5.trans b5.symm
theorem okP_u {V W : vS} (a : uf V W) (f y t m : Int) : okP W f y t m ↔ okP V f y t m := by
  unfold okP cFarm cBody
  rw [a 1 1 (by decide) (Or.inl (by decide)) (Or.inl (by decide)), a 2 f (by decide) (Or.inl (by decide)) (Or.inl (by decide))]
theorem PAID_f {V W : vS} (a : uf V W) {f y t r : Int} {s : Int → Int} {fl : Int} (p : PAID W (NMf W f y t) f y t r s fl) : PAID V (NMf V f y t) f y t r s fl := PAID_k (uf_p (uf_s a)) (fun j u v => (NMf_u a f y t j u v).symm) p
theorem jx_27 {h h1 h2 : aH} {f y t m r1 r2 : Int} (c : R171 (vw h) (vw h) f y t m r1 (vw h1) ∧ IV h1) (k : R171 (vw h1) (vw h1) f y t m r2 (vw h2) ∧ IV h2) : (JSea (vw h2) ∧ JRk (vw h2)) ∧ r1 = r2 := by
  refine ⟨⟨JSea_IV k.2, rOK_IV k.2⟩, ?_⟩
  rcases c.1 with ⟨n, rfl, e⟩ | ⟨o, s, fl, p, rfl, u⟩
  · rw [e] at k
    rcases k.1 with ⟨-, rfl, -⟩ | ⟨o, -⟩
    · rfl
    · exact absurd o n
  · rcases k.1 with ⟨n, -⟩ | ⟨-, s', fl', p', rfl, -⟩
    · exact absurd ((okP_u u _ _ _ _).mpr o) n
    · exact PAID_q p (PAID_f u p') o.2.2.2
theorem R171_u {V : vS} {f y t m r : Int} {W : vS} (c : R171 V V f y t m r W) : uf V W := by
  rcases c with ⟨-, -, rfl⟩ | ⟨-, s, fl, -, -, u⟩
  · exact uf_r _
  · exact u
end
section
-- ===== settled, back =====
theorem NMf_7 (V : vS) (f y t : Int) : 0 ≤ NMf V f y t 7 := by
  by_cases e : ∃ N, NMS V f y t N
  · obtain ⟨N, n⟩ := e
    rw [NMf_e n 7 (by decide) (by decide), n.2.2.1.1]
    split
    · exact Int.le_refl _
    · unfold lt0
      split
      · rename_i h; exact h
      · exact Int.le_refl _
  · unfold NMf
    rw [dif_neg e]
    exact Int.le_refl _
theorem cut_b {s m : Int} (hs : 0 ≤ s ∧ s ≤ 2000000000) (hm : 0 ≤ m ∧ m ≤ 100) (a : Int) (ha : 0 ≤ a ∧ a ≤ 99) : 0 ≤ jDiv (w64 (w64 (s * m) + a)) 100 ∧ jDiv (w64 (w64 (s * m) + a)) 100 ≤ s := by
  have h0 : 0 ≤ s * m := Int.mul_nonneg hs.1 hm.1
  have h1 : s * m ≤ s * 100 := Int.mul_le_mul_of_nonneg_left hm.2 hs.1
  generalize s * m = p at h0 h1 ⊢
  rw [w64_id (z := p) (by omega) (by omega), w64_id (by omega) (by omega), jDiv_pos (by omega) (by omega) (by decide) (by decide)]
  omega
theorem s5_b {N : Int → Int} {s : Int} (hN : 0 ≤ N 7) (hs : 0 ≤ s ∧ s ≤ 2000000000) : 0 ≤ s5F N s ∧ s5F N s ≤ 2000000000 := by
  unfold s5F
  have c := cut_b (m := min 100 (N 7)) hs (by omega) 0 (by decide)
  have e : w64 (w64 (s * min 100 (N 7)) + 0) = w64 (s * min 100 (N 7)) := by
    rw [Int.add_zero]
    unfold w64
    omega
  rw [e] at c
  generalize jDiv (w64 (s * min 100 (N 7))) 100 = d at c ⊢
  rw [w32_id (z := d) (by omega) (by omega), w32_id (by omega) (by omega)]
  omega
theorem fnd_b {s v mj : Int} (hs : 0 ≤ s ∧ s ≤ 2000000000) : 0 ≤ fnd s v mj ∧ fnd s v mj ≤ 2000000000 := by
  unfold fnd
  split
  · exact hs
  · have c := cut_b (m := max 0 (min 100 v)) hs (by omega) 99 (by decide)
    generalize jDiv (w64 (w64 (s * max 0 (min 100 v)) + 99)) 100 = d at c ⊢
    rw [w32_id (z := d) (by omega) (by omega), w32_id (by omega) (by omega)]
    omega
theorem payF_b (V : vS) (f y t r : Int) : 0 ≤ payF V f y t r ∧ payF V f y t r ≤ 2000000000 := by
  unfold payF p5F
  refine s5_b (NMf_7 V f y t) ?_
  have h1 : 0 ≤ p1F V (NMf V f y t) f y t r ∧ p1F V (NMf V f y t) f y t r ≤ 2000000000 := hel_b _
  have h2 : 0 ≤ p2F V (NMf V f y t) f y t r ∧ p2F V (NMf V f y t) f y t r ≤ 2000000000 := by
    unfold p2F s2F grn
    split
    · exact h1
    · exact hel_b _
  have h3 : 0 ≤ p3F V (NMf V f y t) f y t r ∧ p3F V (NMf V f y t) f y t r ≤ 2000000000 := by
    unfold p3F s3F spF
    split
    · exact h2
    · omega
  unfold p4F s4F fin
  split
  · exact h3
  · exact fnd_b h3
def JSet (V : vS) : Prop := ∀ j, 0 ≤ j → j < 1500 → V 46 j = V 129 j ∧ 0 ≤ V 46 j ∧ V 46 j ≤ 2000000000
def LSet : List (Nat × Option Nat) := [(46, none), (129, none)]
theorem JSet_ag {V W : vS} (J : JSet V) (A : ag LSet V W) : JSet W := by
  obtain ⟨a1, a2, -⟩ := A
  intro j u v
  rw [a1, a2]
  exact J j u v
theorem JSet_dG {W : List (Nat × Nat)} {σ σ1 : List Nat} {h h1 : aH} (J : JSet (vw h)) (I : dI σ h) (G : dG W σ h σ1 h1) (k : frL W LSet = true) : JSet (vw h1) := JSet_ag J (ag_dG I.1 G _ k)
theorem zJSet0 : JSet (vw zH0) := fun j u v => by rw [vz zh46, vz zh129]; exact ⟨rfl, by decide, by decide⟩

theorem d14_0 {n : Nat} {X : aX} {h : aH} {P : Int → aH → Prop} {x1 x2 : Int32} {a1 a2 : Int} (S : wS h) (z1 : x1.toInt = a1) (z2 : x2.toInt = a2) (H : ((pr8p h a1 a2 (vw h 1 0) (-1)) ∧ ∀ (y4 : Int) (h_4 : aH), (RP8 h a1 a2 (vw h 1 0) (-1) y4 h_4) → (0 ≤ w32 ((w32 (a1 * 10)) + a2) → w32 ((w32 (a1 * 10)) + a2) < 1500 → ∀ h_9 : aH, wS h_9 → vw h_9 = up (vw h_4) 46 (w32 ((w32 (a1 * 10)) + a2)) y4 → P y4 h_9))) : Pt (n + 1) X zM14 0 [some (.ref 41), some (.int x1), some (.int x2), none] [] h (qI P) := by
  refine pt_1 (fun n d => r_aloadn gx14_0 rfl) ?_
  refine pt_d (pt_1 (fun n d => r_iloadn gx14_1 rfl) ?_)
  refine pt_d (pt_1 (fun n d => r_iloadn gx14_2 rfl) ?_)
  refine pt_d (pt_1 (fun n d => r_aloadn gx14_3 rfl) ?_)
  refine pt_d (pt_getR gx14_4 S tr_41_0 ?_)
  refine pt_d (pt_getI (B := 0) gx14_7 S (fun v2 h2 => ?_))
  refine pt_d (pt_iconst gx14_10 (fun v3 h3 => ?_))
  obtain ⟨pr4, H⟩ := H
  refine pt_d (pt_virt (as := [.int x1, .int x2, .int v2, .int v3]) (r := []) gx14_11 rfl (show zmt[8]? = some zM8 from rfl) rfl rfl rfl rfl (c_8p S z1 z2 h2 h3 pr4) (kqI (fun v4 y4 h_4 h4 P4 => ?_)))
  have S4 := P4.1
  have H := H y4 h_4 P4
  show Pt _ _ _ 14 _ [.int v4] _ _
  refine pt_d (pt_1 (fun n d => r_istoren (L' := [some (.ref 41), some (.int x1), some (.int x2), some (.int v4)]) gx14_14 rfl rfl) ?_)
  refine pt_d (pt_1 (fun n d => r_aloadn gx14_15 rfl) ?_)
  refine pt_d (pt_getR gx14_16 S4 tr_41_8 ?_)
  refine pt_d (pt_1 (fun n d => r_iloadn gx14_19 rfl) ?_)
  refine pt_d (pt_bipush gx14_20 (fun v6 h6 => ?_))
  refine pt_d (pt_imul gx14_22 z1 h6 (fun v7 h7 => ?_))
  refine pt_d (pt_1 (fun n d => r_iloadn gx14_23 rfl) ?_)
  refine pt_d (pt_iadd gx14_24 h7 z2 (fun v8 h8 => ?_))
  refine pt_d (pt_1 (fun n d => r_iloadn gx14_25 rfl) ?_)
  refine pt_d (pt_iast (N' := 1500) gx14_26 S4 tl_46 h8 h4 (fun h_9 S9 p9 q9 e9 => ?_))
  have H := H p9 q9
  refine pt_d (pt_1 (fun n d => r_iloadn gx14_27 rfl) ?_)
  have H := H h_9 S9 (by rw [e9])
  exact pt_d (pt_iret gx14_28 ⟨_, rfl, by rw [h4]; exact H⟩)
theorem ix10 {f y : Int} (hf : 0 ≤ f ∧ f < 150) (hy : 0 ≤ y ∧ y ≤ 9) : w32 (w32 (10 * f) + y) = 10 * f + y := by rw [w32_id (z := 10 * f) (by omega) (by omega), w32_id (by omega) (by omega)]
def R14 (h : aH) (f y v : Int) (h' : aH) : Prop := wS h' ∧ (IV h' ∧ uf (vw h) (vw h')) ∧ v = payF (vw h) f y (vw h 1 0) (-1) ∧ (∀ j, vw h' 46 j = if j = 10 * f + y then v else vw h 46 j) ∧ ∀ j, vw h' 129 j = vw h 129 j
theorem c_14 {n : Nat} {X : aX} {h : aH} {x1 x2 : Int32} {a1 a2 : Int} (S : wS h) (z1 : x1.toInt = a1) (z2 : x2.toInt = a2) (hp : pr8p h a1 a2 (vw h 1 0) (-1)) : Pt n X zM14 0 [some (.ref 41), some (.int x1), some (.int x2), none] [] h (qI (fun v h' => R14 h a1 a2 v h')) := by
  have fb := (PB_l hp.2.1 hp.2.2.1).1
  refine pt_q (pt_and (wk_14 S z1 z2 hp.1) (show Pt n X zM14 0 [some (.ref 41), some (.int x1), some (.int x2), none] [] h (qI (fun v h' => uf (vw h) (vw h') ∧ v = payF (vw h) a1 a2 (vw h 1 0) (-1) ∧ (∀ j, vw h' 46 j = if j = 10 * a1 + a2 then v else vw h 46 j) ∧ ∀ j, vw h' 129 j = vw h 129 j)) from ?_)) ?_
  · refine pt_d (d14_0 S z1 z2 ⟨hp, fun y4 h4 k _ _ h9 S9 e9 => ?_⟩)
    obtain ⟨-, ⟨-, u⟩, ⟨ev, -⟩, fr⟩ := k
    rw [Int.mul_comm a1 10, ix10 fb hp.2.2.2.1] at e9
    refine ⟨fun c j u1 u2 u3 => ?_, ev, fun j => ?_, fun j => ?_⟩
    · rw [e9, up_c (by omega)]
      exact u c j u1 u2 u3
    · rw [e9, up_p, fr 46 j (by decide) (by decide) (by decide) (by decide) (Or.inl (by decide)) (by decide) (Or.inl (by decide))]
    · rw [e9, up_c (by decide)]
      exact fr 129 j (by decide) (by decide) (by decide) (by decide) (Or.inl (by decide)) (by decide) (Or.inl (by decide))
  · rintro v h' ⟨⟨x, rfl, p1, -, p3⟩, ⟨x', ev, p4, p5⟩⟩
    exact ⟨x', ev, p1, ⟨p3, p4⟩, p5⟩

theorem d172_0 {n : Nat} {X : aX} {h : aH} {P : Int → aH → Prop} {x1 x2 : Int32} {a1 a2 : Int} (S : wS h) (z1 : x1.toInt = a1) (z2 : x2.toInt = a2) (H : ((¬ (cFarm (vw h) a1) → P (-1) h) ∧ ((cFarm (vw h) a1) → (((0 ≤ a2 ∧ a2 ≤ (iDiv (vw h 1 0) 365)) → ((pr8p h a1 a2 (vw h 1 0) (-1)) ∧ ∀ (y13 : Int) (h_13 : aH), (R14 h a1 a2 y13 h_13) → P y13 h_13)) ∧ (¬ (0 ≤ a2 ∧ a2 ≤ (iDiv (vw h 1 0) 365)) → P (-1) h))))) : Pt (n + 1) X zM172 0 [some (.ref 0), some (.int x1), some (.int x2)] [] h (qI P) := by
  refine pt_1 (fun n d => r_aloadn gx172_0 rfl) ?_
  refine pt_d (pt_getR gx172_1 S tr_0_0 ?_)
  refine pt_d (pt_1 (fun n d => r_iloadn gx172_4 rfl) ?_)
  refine pt_d (pt_virt (as := [.int x1]) (r := []) gx172_5 rfl (show zmt[75]? = some zM75 from rfl) rfl rfl rfl rfl (c_75 S z1) (kqP (fun v2 h2 => ?_)))
  show Pt _ _ _ 8 _ [.int v2] _ _
  refine pt_d (pt_ifB_eq gx172_8 h2 (fun e3 => ?_) (fun e3 => ?_))
  · have H := H.1 e3
    refine pt_d (pt_iconst gx172_30 (fun v4 h4 => ?_))
    exact pt_d (pt_iret gx172_31 ⟨_, rfl, by rw [h4]; exact H⟩)
  · have H := H.2 e3
    refine pt_d (pt_1 (fun n d => r_iloadn gx172_11 rfl) ?_)
    refine pt_d (pt_iconst gx172_12 (fun v5 h5 => ?_))
    refine pt_d (pt_1 (fun n d => r_aloadn gx172_13 rfl) ?_)
    refine pt_d (pt_getR gx172_14 S tr_0_0 ?_)
    refine pt_d (pt_getI (B := 0) gx172_17 S (fun v7 h7 => ?_))
    refine pt_d (pt_sipush gx172_20 (fun v8 h8 => ?_))
    refine pt_d (pt_idiv gx172_23 h7 h8 (fun v9 h9 => ?_))
    refine pt_d (pt_stat (as := [.int x2, .int v5, .int v9]) (r := []) gx172_24 rfl (show zmt[137]? = some zM137 from rfl) rfl rfl rfl rfl (c_137 S z2 h5 h9) (kqP (fun v10 h10 => ?_)))
    show Pt _ _ _ 27 _ [.int v10] _ _
    refine pt_d (pt_ifB_ne gx172_27 h10 (fun e11 => ?_) (fun e11 => ?_))
    · have H := H.1 e11
      refine pt_d (pt_1 (fun n d => r_aloadn gx172_32 rfl) ?_)
      refine pt_d (pt_getR gx172_33 S tr_0_4 ?_)
      refine pt_d (pt_1 (fun n d => r_iloadn gx172_36 rfl) ?_)
      refine pt_d (pt_1 (fun n d => r_iloadn gx172_37 rfl) ?_)
      obtain ⟨pr13, H⟩ := H
      refine pt_d (pt_virt (as := [.int x1, .int x2]) (r := []) gx172_38 rfl (show zmt[14]? = some zM14 from rfl) rfl rfl rfl rfl (c_14 S z1 z2 pr13) (kqI (fun v13 y13 h_13 h13 P13 => ?_)))
      have S13 := P13.1
      have H := H y13 h_13 P13
      show Pt _ _ _ 41 _ [.int v13] _ _
      exact pt_d (pt_iret gx172_41 ⟨_, rfl, by rw [h13]; exact H⟩)
    · have H := H.2 e11
      refine pt_d (pt_iconst gx172_30 (fun v14 h14 => ?_))
      exact pt_d (pt_iret gx172_31 ⟨_, rfl, by rw [h14]; exact H⟩)
theorem d279_0 {n : Nat} {X : aX} {h : aH} {P : Int → aH → Prop} {x1 x2 : Int32} {a1 a2 : Int} (S : wS h) (z1 : x1.toInt = a1) (z2 : x2.toInt = a2) (H : ((¬ (mFarm (vw h) a1) → P (-1) h) ∧ ((mFarm (vw h) a1) → (((0 ≤ a2 ∧ a2 ≤ (iDiv (vw h 72 1) 365)) → ((pr8p h a1 a2 (vw h 72 1) (-1)) ∧ ∀ (y16 : Int) (h_16 : aH), (RP277 h a1 a2 (vw h 72 1) (-1) y16 h_16) → (0 ≤ w32 ((w32 (10 * a1)) + a2) → w32 ((w32 (10 * a1)) + a2) < 1500 → ∀ h_17 : aH, wS h_17 → vw h_17 = up (vw h_16) 129 (w32 ((w32 (10 * a1)) + a2)) y16 → P y16 h_17))) ∧ (¬ (0 ≤ a2 ∧ a2 ≤ (iDiv (vw h 72 1) 365)) → P (-1) h))))) : Pt (n + 1) X zM279 0 [some (.ref 72), some (.int x1), some (.int x2)] [] h (qI P) := by
  refine pt_1 (fun n d => r_aloadn gx279_0 rfl) ?_
  refine pt_d (pt_1 (fun n d => r_iloadn gx279_1 rfl) ?_)
  refine pt_d (pt_virt (as := [.int x1]) (r := []) gx279_2 rfl (show zmt[202]? = some zM202 from rfl) rfl rfl rfl rfl (c_202 S z1) (kqP (fun v1 h1 => ?_)))
  show Pt _ _ _ 5 _ [.int v1] _ _
  refine pt_d (pt_ifB_eq gx279_5 h1 (fun e2 => ?_) (fun e2 => ?_))
  · have H := H.1 e2
    refine pt_d (pt_iconst gx279_24 (fun v3 h3 => ?_))
    exact pt_d (pt_iret gx279_25 ⟨_, rfl, by rw [h3]; exact H⟩)
  · have H := H.2 e2
    refine pt_d (pt_1 (fun n d => r_iloadn gx279_8 rfl) ?_)
    refine pt_d (pt_iconst gx279_9 (fun v4 h4 => ?_))
    refine pt_d (pt_1 (fun n d => r_aloadn gx279_10 rfl) ?_)
    refine pt_d (pt_getI (B := 1) gx279_11 S (fun v5 h5 => ?_))
    refine pt_d (pt_sipush gx279_14 (fun v6 h6 => ?_))
    refine pt_d (pt_idiv gx279_17 h5 h6 (fun v7 h7 => ?_))
    refine pt_d (pt_stat (as := [.int x2, .int v4, .int v7]) (r := []) gx279_18 rfl (show zmt[196]? = some zM196 from rfl) rfl rfl rfl rfl (c_196 S z2 h4 h7) (kqP (fun v8 h8 => ?_)))
    show Pt _ _ _ 21 _ [.int v8] _ _
    refine pt_d (pt_ifB_ne gx279_21 h8 (fun e9 => ?_) (fun e9 => ?_))
    · have H := H.1 e9
      refine pt_d (pt_1 (fun n d => r_aloadn gx279_26 rfl) ?_)
      refine pt_d (pt_getR gx279_27 S tr_72_76 ?_)
      refine pt_d (pt_bipush gx279_30 (fun v11 h11 => ?_))
      refine pt_d (pt_1 (fun n d => r_iloadn gx279_32 rfl) ?_)
      refine pt_d (pt_imul gx279_33 h11 z1 (fun v12 h12 => ?_))
      refine pt_d (pt_1 (fun n d => r_iloadn gx279_34 rfl) ?_)
      refine pt_d (pt_iadd gx279_35 h12 z2 (fun v13 h13 => ?_))
      refine pt_d (pt_1 (fun n d => r_aloadn gx279_36 rfl) ?_)
      refine pt_d (pt_1 (fun n d => r_iloadn gx279_37 rfl) ?_)
      refine pt_d (pt_1 (fun n d => r_iloadn gx279_38 rfl) ?_)
      refine pt_d (pt_1 (fun n d => r_aloadn gx279_39 rfl) ?_)
      refine pt_d (pt_getI (B := 1) gx279_40 S (fun v14 h14 => ?_))
      refine pt_d (pt_iconst gx279_43 (fun v15 h15 => ?_))
      obtain ⟨pr16, H⟩ := H
      refine pt_d (pt_virt (as := [.int x1, .int x2, .int v14, .int v15]) (r := [.int v13, .ref 129]) gx279_44 rfl (show zmt[277]? = some zM277 from rfl) rfl rfl rfl rfl (c_277p S z1 z2 h14 h15 pr16) (kqI (fun v16 y16 h_16 h16 P16 => ?_)))
      have S16 := P16.1
      have H := H y16 h_16 P16
      show Pt _ _ _ 47 _ [.int v16, .int v13, .ref 129] _ _
      refine pt_d (pt_iast (N' := 1500) gx279_47 S16 tl_129 h13 h16 (fun h_17 S17 p17 q17 e17 => ?_))
      have H := H p17 q17
      refine pt_d (pt_1 (fun n d => r_aloadn gx279_48 rfl) ?_)
      refine pt_d (pt_getR gx279_49 S17 tr_72_76 ?_)
      refine pt_d (pt_bipush gx279_52 (fun v19 h19 => ?_))
      refine pt_d (pt_1 (fun n d => r_iloadn gx279_54 rfl) ?_)
      refine pt_d (pt_imul gx279_55 h19 z1 (fun v20 h20 => ?_))
      refine pt_d (pt_1 (fun n d => r_iloadn gx279_56 rfl) ?_)
      refine pt_d (pt_iadd gx279_57 h20 z2 (fun v21 h21 => ?_))
      refine pt_d (pt_iald (N' := 1500) gx279_58 S17 tl_129 h21 (fun v22 p22 q22 h22 => ?_))
      have h22 : v22.toInt = y16 := by rw [h22, e17, up_s]
      have H := H h_17 S17 (by rw [e17])
      exact pt_d (pt_iret gx279_59 ⟨_, rfl, by rw [h22]; exact H⟩)
    · have H := H.2 e9
      refine pt_d (pt_iconst gx279_24 (fun v23 h23 => ?_))
      exact pt_d (pt_iret gx279_25 ⟨_, rfl, by rw [h23]; exact H⟩)
def okT (V : vS) (f y : Int) : Prop := cFarm V f ∧ 0 ≤ y ∧ y ≤ iDiv (V 1 0) 365
def R172 (V V' : vS) (cl co : Nat) (f y r : Int) (W : vS) : Prop := (¬ okT V f y ∧ r = -1 ∧ W = V') ∨ ((okT V f y ∧ (0 ≤ f ∧ f < 150) ∧ 0 ≤ y ∧ y ≤ 9) ∧ r = payF V f y (V 1 0) (-1) ∧ uf V W ∧ (∀ j, W cl j = if j = 10 * f + y then r else V cl j) ∧ ∀ j, W co j = V co j)
theorem yr_b {V : vS} (d : 0 ≤ V 1 0 ∧ V 1 0 ≤ 3649) : 0 ≤ iDiv (V 1 0) 365 ∧ iDiv (V 1 0) 365 ≤ 9 := by
  rw [iDiv_pos d.1 (by omega) (by decide) (by decide)]
  omega
theorem c_172w {n : Nat} {X : aX} {h : aH} {x1 x2 : Int32} {a1 a2 : Int} (S : wS h) (z1 : x1.toInt = a1) (z2 : x2.toInt = a2) (I : IV h) (B : PB (vw h)) (d : 0 ≤ vw h 1 0 ∧ vw h 1 0 ≤ 3649) : Pt n X zM172 0 [some (.ref 0), some (.int x1), some (.int x2)] [] h (qI (fun r h' => R172 (vw h) (vw h) 46 129 a1 a2 r (vw h') ∧ IV h')) := by
  have yb := yr_b d
  have bad : ¬ okT (vw h) a1 a2 → R172 (vw h) (vw h) 46 129 a1 a2 (-1) (vw h) ∧ IV h := fun z => ⟨Or.inl ⟨z, rfl, rfl⟩, I⟩
  refine pt_d (d172_0 S z1 z2 ⟨fun e => bad (fun z => e z.1), fun e1 => ⟨fun e2 => ⟨⟨I, B, e1, by omega, d, Or.inl rfl⟩, fun y h13 k => ?_⟩, fun e => bad (fun z => e z.2)⟩⟩)
  obtain ⟨-, ⟨I', u⟩, ev, e46, e129⟩ := k
  exact ⟨Or.inr ⟨⟨⟨e1, e2⟩, (PB_l B e1).1, by omega, by omega⟩, ev, u, e46, e129⟩, I'⟩
theorem c_279w {n : Nat} {X : aX} {h : aH} {x1 x2 : Int32} {a1 a2 : Int} (S : wS h) (z1 : x1.toInt = a1) (z2 : x2.toInt = a2) (I : IV h) (B : PB (vw h)) (d : 0 ≤ vw h 1 0 ∧ vw h 1 0 ≤ 3649) (hd : vw h 1 0 = vw h 72 1) : Pt n X zM279 0 [some (.ref 72), some (.int x1), some (.int x2)] [] h (qI (fun r h' => R172 (vw h) (vw h) 129 46 a1 a2 r (vw h') ∧ IV h')) := by
  have Bd := B.1.1.2.1
  have yb := yr_b d
  have bad : ¬ okT (vw h) a1 a2 → R172 (vw h) (vw h) 129 46 a1 a2 (-1) (vw h) := fun z => Or.inl ⟨z, rfl, rfl⟩
  refine pt_q (pt_and (wk_279 S z1 z2 I) (show Pt n X zM279 0 [some (.ref 72), some (.int x1), some (.int x2)] [] h (qI (fun r h' => R172 (vw h) (vw h) 129 46 a1 a2 r (vw h'))) from ?_)) ?_
  · have D := d279_0 (n := n) (X := X) (h := h) (P := fun r h' => R172 (vw h) (vw h) 129 46 a1 a2 r (vw h')) S z1 z2
    rw [← hd] at D
    refine pt_d (D ⟨fun e => bad (fun z => e ((farm_j Bd a1).mp z.1)), fun e1 => ⟨fun e2 => ⟨⟨I, B, (farm_j Bd a1).mpr e1, by omega, d, Or.inl rfl⟩, fun y h16 k _ _ h17 S17 e17 => ?_⟩, fun e => bad (fun z => e z.2)⟩⟩)
    have cf := (farm_j Bd a1).mpr e1
    have fb := (PB_l B cf).1
    obtain ⟨-, ⟨I', u⟩, ⟨ev, -⟩, -, fr⟩ := k
    rw [ix10 fb (by omega)] at e17
    refine Or.inr ⟨⟨⟨cf, e2⟩, fb, by omega, by omega⟩, ev, fun c j u1 u2 u3 => ?_, fun j => ?_, fun j => ?_⟩
    · rw [e17, up_c (by omega)]
      exact u c j u1 u2 u3
    · rw [e17, up_p, fr 129 j (Or.inr (by decide)) (Or.inr (by decide)) (Or.inl (by decide))]
    · rw [e17, up_c (by decide)]
      exact fr 46 j (Or.inl (by decide)) (Or.inl (by decide)) (Or.inl (by decide))
  · rintro v h' ⟨⟨x, rfl, p1, -, p3⟩, ⟨x', ev, p4⟩⟩
    exact ⟨x', ev, p4, p3⟩
theorem R172_B {V : vS} {cl co : Nat} {f y r : Int} {W : vS} (c : R172 V V cl co f y r W) : uf V W := by
  rcases c with ⟨-, -, rfl⟩ | ⟨-, -, u, -⟩
  · exact uf_r _
  · exact u
theorem okT_u {V W : vS} (a : uf V W) (f y : Int) : okT W f y ↔ okT V f y := by
  unfold okT cFarm cBody
  rw [a 1 1 (by decide) (Or.inl (by decide)) (Or.inl (by decide)), a 2 f (by decide) (Or.inl (by decide)) (Or.inl (by decide)), a 1 0 (by decide) (Or.inl (by decide)) (Or.inl (by decide))]
theorem jx_28 {h h1 h2 : aH} {f y r1 r2 : Int} (J : JSet (vw h)) (c : R172 (vw h) (vw h) 46 129 f y r1 (vw h1) ∧ IV h1) (k : R172 (vw h1) (vw h1) 129 46 f y r2 (vw h2) ∧ IV h2) : (JSea (vw h2) ∧ JRk (vw h2) ∧ JSet (vw h2)) ∧ r1 = r2 := by
  rcases c.1 with ⟨n, rfl, e⟩ | ⟨o, rfl, u, c1, c2⟩
  · rw [e] at k
    rcases k.1 with ⟨-, rfl, e2⟩ | ⟨o, -⟩
    · refine ⟨⟨JSea_IV k.2, rOK_IV k.2, ?_⟩, rfl⟩
      rw [e2]
      exact J
    · exact absurd o.1 n
  · rcases k.1 with ⟨n, -⟩ | ⟨-, rfl, -, k1, k2⟩
    · exact absurd ((okT_u u _ _).mpr o.1) n
    · have e10 : vw h1 1 0 = vw h 1 0 := u 1 0 (by decide) (Or.inl (by decide)) (Or.inl (by decide))
      have ep : payF (vw h1) f y (vw h1 1 0) (-1) = payF (vw h) f y (vw h 1 0) (-1) := by rw [e10, payF_u u]
      rw [ep] at k1 ⊢
      refine ⟨⟨JSea_IV k.2, rOK_IV k.2, fun j a b => ?_⟩, rfl⟩
      rw [k1, k2, c1, c2]
      by_cases z : j = 10 * f + y
      · rw [if_pos z, if_pos z]
        exact ⟨rfl, payF_b _ _ _ _ _⟩
      · rw [if_neg z, if_neg z]
        exact J j a b
end
section
-- ===== settled, back =====
theorem d15_0 {n : Nat} {X : aX} {h : aH} {P : Int → aH → Prop} {x1 : Int32} {a1 : Int} (S : wS h) (z1 : x1.toInt = a1) (H : (∀ (w2 : Int64) (w4 : Int32) (w5 : Int32), w2.toInt = 0 → w4.toInt = iDiv (vw h 1 0) 365 → w5.toInt = 0 → Pt n X zM15 18 [some (.ref 41), some (.int x1), some (.long w2), none, some (.int w4), some (.int w5)] [] h (qI P))) : Pt (n + 1) X zM15 0 [some (.ref 41), some (.int x1), none, none, none, none] [] h (qI P) := by
  refine pt_lconst (c := 0) gx15_0 rfl (fun v1 h1 => ?_)
  refine pt_d (pt_1 (fun n d => r_lstoren (L' := [some (.ref 41), some (.int x1), some (.long v1), none, none, none]) gx15_1 rfl rfl) ?_)
  refine pt_d (pt_1 (fun n d => r_aloadn gx15_2 rfl) ?_)
  refine pt_d (pt_getR gx15_3 S tr_41_0 ?_)
  refine pt_d (pt_getI (B := 0) gx15_6 S (fun v3 h3 => ?_))
  refine pt_d (pt_sipush gx15_9 (fun v4 h4 => ?_))
  refine pt_d (pt_idiv gx15_12 h3 h4 (fun v5 h5 => ?_))
  refine pt_d (pt_1 (fun n d => r_istore (L' := [some (.ref 41), some (.int x1), some (.long v1), none, some (.int v5), none]) gx15_13 rfl rfl) ?_)
  refine pt_d (pt_iconst gx15_15 (fun v6 h6 => ?_))
  refine pt_d (pt_1 (fun n d => r_istore (L' := [some (.ref 41), some (.int x1), some (.long v1), none, some (.int v5), some (.int v6)]) gx15_16 rfl rfl) ?_)
  exact H v1 v5 v6 h1 h5 h6
theorem d15_18 {n : Nat} {X : aX} {h : aH} {P : Int → aH → Prop} {x1 x4 x5 : Int32} {x2 : Int64} {a1 a4 a5 a2 : Int} (S : wS h) (z1 : x1.toInt = a1) (z2 : x2.toInt = a2) (z4 : x4.toInt = a4) (z5 : x5.toInt = a5) (H : ((a4 ≤ a5 → P (w32 (max (-1999999999) (min 2000000000 a2))) h) ∧ (a5 < a4 → ((10 ≤ a5 → P (w32 (max (-1999999999) (min 2000000000 a2))) h) ∧ (a5 < 10 → ((pr8p h a1 a5 (vw h 1 0) (-1)) ∧ ∀ (y17 : Int) (h_17 : aH), (RP8 h a1 a5 (vw h 1 0) (-1) y17 h_17) → (0 ≤ w32 ((w32 (a1 * 10)) + a5) → w32 ((w32 (a1 * 10)) + a5) < 1500 → (∀ (w2 : Int64) (w5 : Int32), w2.toInt = w64 (a2 + (w32 (y17 - (vw h_17 46 (w32 ((w32 (a1 * 10)) + a5)))))) → w5.toInt = w32 (a5 + 1) → Pt n X zM15 18 [some (.ref 41), some (.int x1), some (.long w2), none, some (.int x4), some (.int w5)] [] h_17 (qI P))))))))) : Pt (n + 1) X zM15 18 [some (.ref 41), some (.int x1), some (.long x2), none, some (.int x4), some (.int x5)] [] h (qI P) := by
  refine pt_1 (fun n d => r_iload gx15_18 rfl) ?_
  refine pt_d (pt_1 (fun n d => r_iload gx15_20 rfl) ?_)
  refine pt_d (pt_icmp_ge gx15_22 z5 z4 (fun e1 => ?_) (fun e1 => ?_))
  · have H := H.1 e1
    refine pt_d (pt_ldc2_w (c := (-1999999999)) gx15_70 rfl (fun v2 h2 => ?_))
    refine pt_d (pt_ldc2_w (c := 2000000000) gx15_73 rfl (fun v3 h3 => ?_))
    refine pt_d (pt_1 (fun n d => r_lloadn gx15_76 rfl) ?_)
    refine pt_d (pt_lmin gx15_77 rfl h3 z2 (fun v4 h4 => ?_))
    refine pt_d (pt_lmax gx15_80 rfl h2 h4 (fun v5 h5 => ?_))
    refine pt_d (pt_l2i gx15_83 h5 (fun v6 h6 => ?_))
    exact pt_d (pt_iret gx15_84 ⟨_, rfl, by rw [h6]; exact H⟩)
  · have H := H.2 e1
    refine pt_d (pt_1 (fun n d => r_iload gx15_25 rfl) ?_)
    refine pt_d (pt_bipush gx15_27 (fun v7 h7 => ?_))
    refine pt_d (pt_icmp_ge gx15_29 z5 h7 (fun e8 => ?_) (fun e8 => ?_))
    · have H := H.1 e8
      refine pt_d (pt_ldc2_w (c := (-1999999999)) gx15_70 rfl (fun v9 h9 => ?_))
      refine pt_d (pt_ldc2_w (c := 2000000000) gx15_73 rfl (fun v10 h10 => ?_))
      refine pt_d (pt_1 (fun n d => r_lloadn gx15_76 rfl) ?_)
      refine pt_d (pt_lmin gx15_77 rfl h10 z2 (fun v11 h11 => ?_))
      refine pt_d (pt_lmax gx15_80 rfl h9 h11 (fun v12 h12 => ?_))
      refine pt_d (pt_l2i gx15_83 h12 (fun v13 h13 => ?_))
      exact pt_d (pt_iret gx15_84 ⟨_, rfl, by rw [h13]; exact H⟩)
    · have H := H.2 e8
      refine pt_d (pt_1 (fun n d => r_lloadn gx15_32 rfl) ?_)
      refine pt_d (pt_1 (fun n d => r_aloadn gx15_33 rfl) ?_)
      refine pt_d (pt_1 (fun n d => r_iloadn gx15_34 rfl) ?_)
      refine pt_d (pt_1 (fun n d => r_iload gx15_35 rfl) ?_)
      refine pt_d (pt_1 (fun n d => r_aloadn gx15_37 rfl) ?_)
      refine pt_d (pt_getR gx15_38 S tr_41_0 ?_)
      refine pt_d (pt_getI (B := 0) gx15_41 S (fun v15 h15 => ?_))
      refine pt_d (pt_iconst gx15_44 (fun v16 h16 => ?_))
      obtain ⟨pr17, H⟩ := H
      refine pt_d (pt_virt (as := [.int x1, .int x5, .int v15, .int v16]) (r := [.long x2]) gx15_45 rfl (show zmt[8]? = some zM8 from rfl) rfl rfl rfl rfl (c_8p S z1 z5 h15 h16 pr17) (kqI (fun v17 y17 h_17 h17 P17 => ?_)))
      have S17 := P17.1
      have H := H y17 h_17 P17
      show Pt _ _ _ 48 _ [.int v17, .long x2] _ _
      refine pt_d (pt_1 (fun n d => r_aloadn gx15_48 rfl) ?_)
      refine pt_d (pt_getR gx15_49 S17 tr_41_8 ?_)
      refine pt_d (pt_1 (fun n d => r_iloadn gx15_52 rfl) ?_)
      refine pt_d (pt_bipush gx15_53 (fun v19 h19 => ?_))
      refine pt_d (pt_imul gx15_55 z1 h19 (fun v20 h20 => ?_))
      refine pt_d (pt_1 (fun n d => r_iload gx15_56 rfl) ?_)
      refine pt_d (pt_iadd gx15_58 h20 z5 (fun v21 h21 => ?_))
      refine pt_d (pt_iald (N' := 1500) gx15_59 S17 tl_46 h21 (fun v22 p22 q22 h22 => ?_))
      have H := H p22 q22
      refine pt_d (pt_isub gx15_60 h17 h22 (fun v23 h23 => ?_))
      refine pt_d (pt_i2l gx15_61 h23 (fun v24 h24 => ?_))
      refine pt_d (pt_ladd gx15_62 z2 h24 (fun v25 h25 => ?_))
      refine pt_d (pt_1 (fun n d => r_lstoren (L' := [some (.ref 41), some (.int x1), some (.long v25), none, some (.int x4), some (.int x5)]) gx15_63 rfl rfl) ?_)
      refine pt_d (pt_iinc (c := 1) gx15_64 rfl z5 (fun v26 h26 => ?_))
      show Pt _ _ _ _ [some (.ref 41), some (.int x1), some (.long v25), none, some (.int x4), some (.int v26)] [] _ _
      refine pt_d (pt_1 (fun n d => r_goto gx15_67) ?_)
      exact H v25 v26 h25 h26
noncomputable def bkF (V : vS) (f : Int) : Nat → Int
  | 0 => 0
  | n + 1 => bkF V f n + (payF V f (n : Nat) (V 1 0) (-1) - V 46 (10 * f + (n : Nat)))
def hlB (z : Int) : Int := max (-1999999999) (min 2000000000 z)
theorem bkF_b {V : vS} (J : JSet V) {f : Int} (hf : 0 ≤ f ∧ f < 150) : ∀ n : Nat, n ≤ 10 → -(2000000000 * (n : Int)) ≤ bkF V f n ∧ bkF V f n ≤ 2000000000 * (n : Int)
  | 0, _ => ⟨by show -(2000000000 * ((0 : Nat) : Int)) ≤ 0; omega, by show (0 : Int) ≤ 2000000000 * ((0 : Nat) : Int); omega⟩
  | n + 1, h => by
    have ih := bkF_b J hf n (by omega)
    have p := payF_b V f (n : Nat) (V 1 0) (-1)
    have s := J (10 * f + (n : Nat)) (by omega) (by omega)
    have e : bkF V f (n + 1) = bkF V f n + (payF V f (n : Nat) (V 1 0) (-1) - V 46 (10 * f + (n : Nat))) := rfl
    rw [e]
    omega
def pr15 (h : aH) (f : Int) : Prop := (IV h ∧ PB (vw h) ∧ cFarm (vw h) f) ∧ (0 ≤ vw h 1 0 ∧ vw h 1 0 ≤ 3649) ∧ JSet (vw h)
def R15 (h : aH) (f r : Int) (h' : aH) : Prop := wS h' ∧ r = hlB (bkF (vw h) f (iDiv (vw h 1 0) 365).toNat) ∧ IV h' ∧ uf (vw h) (vw h') ∧ ∀ j, vw h' 46 j = vw h 46 j ∧ vw h' 129 j = vw h 129 j
theorem l_15 {X : aX} {h0 : aH} {f : Int} (hp : pr15 h0 f) : ∀ (n : Nat) (h : aH) (x1 x4 x5 : Int32) (x2 : Int64) (k : Nat), wS h → IV h → uf (vw h0) (vw h) → (∀ j, vw h 46 j = vw h0 46 j ∧ vw h 129 j = vw h0 129 j) → x1.toInt = f → x2.toInt = bkF (vw h0) f k → x4.toInt = iDiv (vw h0 1 0) 365 → x5.toInt = (k : Int) → (k : Int) ≤ iDiv (vw h0 1 0) 365 → Pt n X zM15 18 [some (.ref 41), some (.int x1), some (.long x2), none, some (.int x4), some (.int x5)] [] h (qI (fun r h' => R15 h0 f r h')) := by
  obtain ⟨⟨I0, B, cf⟩, d, J⟩ := hp
  have fb := (PB_l B cf).1
  have yb := yr_b d
  intro n
  induction n with
  | zero => exact fun _ _ _ _ _ _ _ _ _ _ _ _ _ _ _ => pt_z
  | succ n ih =>
    intro h x1 x4 x5 x2 k S I u e46 h1 h2 h4 h5 hk
    have bb := bkF_b J fb k (by omega)
    have fin' : iDiv (vw h0 1 0) 365 ≤ (k : Int) → R15 h0 f (w32 (max (-1999999999) (min 2000000000 (bkF (vw h0) f k)))) h := fun ge => by
      have kn : (iDiv (vw h0 1 0) 365).toNat = k := by omega
      refine ⟨S, ?_, I, u, e46⟩
      rw [kn, w32_id (by omega) (by omega)]
      rfl
    have e10 : vw h 1 0 = vw h0 1 0 := u 1 0 (by decide) (Or.inl (by decide)) (Or.inl (by decide))
    refine d15_18 S h1 h2 h4 h5 ⟨fun ge => fin' ge, fun lt => ⟨fun ge => by omega, fun lt10 => ⟨⟨I, PB_u u B, (by
      have c := cf
      unfold cFarm cBody at c ⊢
      rw [u 1 1 (by decide) (Or.inl (by decide)) (Or.inl (by decide)), u 2 f (by decide) (Or.inl (by decide)) (Or.inl (by decide))]
      exact c), by omega, by rw [e10]; exact d, Or.inl rfl⟩, fun y17 h17 R _ _ w2 w5 g2 g5 => ?_⟩⟩⟩
    obtain ⟨S17, ⟨I17, u17⟩, ⟨ev, -⟩, fr⟩ := R
    have i46 : ∀ j, vw h17 46 j = vw h0 46 j := fun j => (fr 46 j (by decide) (by decide) (by decide) (by decide) (Or.inl (by decide)) (by decide) (Or.inl (by decide))).trans (e46 j).1
    have i129 : ∀ j, vw h17 129 j = vw h0 129 j := fun j => (fr 129 j (by decide) (by decide) (by decide) (by decide) (Or.inl (by decide)) (by decide) (Or.inl (by decide))).trans (e46 j).2
    rw [e10, payF_u u] at ev
    have pb := payF_b (vw h0) f (k : Nat) (vw h0 1 0) (-1)
    have sb := J (10 * f + (k : Nat)) (by omega) (by omega)
    rw [Int.mul_comm f 10, ix10 fb (by omega), i46, ev, w32_id (by omega) (by omega), w64_id (by omega) (by omega)] at g2
    replace g5 := w_1 g5 (by omega) (by omega)
    exact ih h17 x1 x4 w5 w2 (k + 1) S17 I17 (uf_t u u17) (fun j => ⟨i46 j, i129 j⟩) h1 g2 h4 (by omega) (by omega)
theorem c_15 {n : Nat} {X : aX} {h : aH} {x1 : Int32} {a1 : Int} (S : wS h) (z1 : x1.toInt = a1) (hp : pr15 h a1) : Pt n X zM15 0 [some (.ref 41), some (.int x1), none, none, none, none] [] h (qI (fun r h' => R15 h a1 r h')) :=
  pt_d (d15_0 S z1 (fun w2 w4 w5 g2 g4 g5 => l_15 hp n h x1 w4 w5 w2 0 S hp.1.1 (uf_r _) (fun _ => ⟨rfl, rfl⟩) z1 g2 g4 g5 (yr_b hp.2.1).1))

theorem d173_0 {n : Nat} {X : aX} {h : aH} {P : Int → aH → Prop} {x1 : Int32} {a1 : Int} (S : wS h) (z1 : x1.toInt = a1) (H : ((¬ (cFarm (vw h) a1) → P (-2000000000) h) ∧ ((cFarm (vw h) a1) → ((pr15 h a1) ∧ ∀ (y6 : Int) (h_6 : aH), (R15 h a1 y6 h_6) → P y6 h_6)))) : Pt (n + 1) X zM173 0 [some (.ref 0), some (.int x1)] [] h (qI P) := by
  refine pt_1 (fun n d => r_aloadn gx173_0 rfl) ?_
  refine pt_d (pt_getR gx173_1 S tr_0_0 ?_)
  refine pt_d (pt_1 (fun n d => r_iloadn gx173_4 rfl) ?_)
  refine pt_d (pt_virt (as := [.int x1]) (r := []) gx173_5 rfl (show zmt[75]? = some zM75 from rfl) rfl rfl rfl rfl (c_75 S z1) (kqP (fun v2 h2 => ?_)))
  show Pt _ _ _ 8 _ [.int v2] _ _
  refine pt_d (pt_ifB_eq gx173_8 h2 (fun e3 => ?_) (fun e3 => ?_))
  · have H := H.1 e3
    refine pt_d (pt_ldc (c := (-2000000000)) gx173_22 rfl (fun v4 h4 => ?_))
    exact pt_d (pt_iret gx173_24 ⟨_, rfl, by rw [h4]; exact H⟩)
  · have H := H.2 e3
    refine pt_d (pt_1 (fun n d => r_aloadn gx173_11 rfl) ?_)
    refine pt_d (pt_getR gx173_12 S tr_0_4 ?_)
    refine pt_d (pt_1 (fun n d => r_iloadn gx173_15 rfl) ?_)
    obtain ⟨pr6, H⟩ := H
    refine pt_d (pt_virt (as := [.int x1]) (r := []) gx173_16 rfl (show zmt[15]? = some zM15 from rfl) rfl rfl rfl rfl (c_15 S z1 pr6) (kqI (fun v6 y6 h_6 h6 P6 => ?_)))
    have S6 := P6.1
    have H := H y6 h_6 P6
    show Pt _ _ _ 19 _ [.int v6] _ _
    refine pt_d (pt_1 (fun n d => r_goto gx173_19) ?_)
    exact pt_d (pt_iret gx173_24 ⟨_, rfl, by rw [h6]; exact H⟩)
theorem d280_0 {n : Nat} {X : aX} {h : aH} {P : Int → aH → Prop} {x1 : Int32} {a1 : Int} (S : wS h) (z1 : x1.toInt = a1) (H : (((mFarm (vw h) a1) → (∀ (w2 : Int64) (w4 : Int32), w2.toInt = 0 → w4.toInt = 0 → Pt n X zM280 17 [some (.ref 72), some (.int x1), some (.long w2), none, some (.int w4)] [] h (qI P))) ∧ (¬ (mFarm (vw h) a1) → P (-2000000000) h))) : Pt (n + 1) X zM280 0 [some (.ref 72), some (.int x1), none, none, none] [] h (qI P) := by
  refine pt_1 (fun n d => r_aloadn gx280_0 rfl) ?_
  refine pt_d (pt_1 (fun n d => r_iloadn gx280_1 rfl) ?_)
  refine pt_d (pt_virt (as := [.int x1]) (r := []) gx280_2 rfl (show zmt[202]? = some zM202 from rfl) rfl rfl rfl rfl (c_202 S z1) (kqP (fun v1 h1 => ?_)))
  show Pt _ _ _ 5 _ [.int v1] _ _
  refine pt_d (pt_ifB_ne gx280_5 h1 (fun e2 => ?_) (fun e2 => ?_))
  · have H := H.1 e2
    refine pt_d (pt_lconst (c := 0) gx280_12 rfl (fun v3 h3 => ?_))
    refine pt_d (pt_1 (fun n d => r_lstoren (L' := [some (.ref 72), some (.int x1), some (.long v3), none, none]) gx280_13 rfl rfl) ?_)
    refine pt_d (pt_iconst gx280_14 (fun v4 h4 => ?_))
    refine pt_d (pt_1 (fun n d => r_istore (L' := [some (.ref 72), some (.int x1), some (.long v3), none, some (.int v4)]) gx280_15 rfl rfl) ?_)
    exact H v3 v4 h3 h4
  · have H := H.2 e2
    refine pt_d (pt_ldc_w (c := (-2000000000)) gx280_8 rfl (fun v5 h5 => ?_))
    exact pt_d (pt_iret gx280_11 ⟨_, rfl, by rw [h5]; exact H⟩)
theorem d280_17 {n : Nat} {X : aX} {h : aH} {P : Int → aH → Prop} {x1 x4 : Int32} {x2 : Int64} {a1 a4 a2 : Int} (S : wS h) (z1 : x1.toInt = a1) (z2 : x2.toInt = a2) (z4 : x4.toInt = a4) (H : ((iDiv (vw h 72 1) 365 ≤ a4 → (((-1999999999) ≤ a2 → ((a2 ≤ 2000000000 → P (w32 a2) h) ∧ (2000000000 < a2 → P 2000000000 h))) ∧ (a2 < (-1999999999) → P (-1999999999) h))) ∧ (a4 < iDiv (vw h 72 1) 365 → ((pr8p h a1 a4 (vw h 72 1) (-1)) ∧ ∀ (y14 : Int) (h_14 : aH), (RP277 h a1 a4 (vw h 72 1) (-1) y14 h_14) → (0 ≤ w32 ((w32 (10 * a1)) + a4) → w32 ((w32 (10 * a1)) + a4) < 1500 → (∀ (w2 : Int64) (w4 : Int32), w2.toInt = w64 (a2 + (w64 (y14 - (vw h_14 129 (w32 ((w32 (10 * a1)) + a4)))))) → w4.toInt = w32 (a4 + 1) → Pt n X zM280 17 [some (.ref 72), some (.int x1), some (.long w2), none, some (.int w4)] [] h_14 (qI P))))))) : Pt (n + 1) X zM280 17 [some (.ref 72), some (.int x1), some (.long x2), none, some (.int x4)] [] h (qI P) := by
  refine pt_1 (fun n d => r_iload gx280_17 rfl) ?_
  refine pt_d (pt_1 (fun n d => r_aloadn gx280_19 rfl) ?_)
  refine pt_d (pt_getI (B := 1) gx280_20 S (fun v1 h1 => ?_))
  refine pt_d (pt_sipush gx280_23 (fun v2 h2 => ?_))
  refine pt_d (pt_idiv gx280_26 h1 h2 (fun v3 h3 => ?_))
  refine pt_d (pt_icmp_ge gx280_27 z4 h3 (fun e4 => ?_) (fun e4 => ?_))
  · have H := H.1 e4
    refine pt_d (pt_1 (fun n d => r_lloadn gx280_66 rfl) ?_)
    refine pt_d (pt_ldc2_w (c := (-1999999999)) gx280_67 rfl (fun v5 h5 => ?_))
    refine pt_d (pt_lcmp_ge gx280_70 gx280_71 z2 h5 (fun e6 => ?_) (fun e6 => ?_))
    · have H := H.1 e6
      refine pt_d (pt_1 (fun n d => r_lloadn gx280_80 rfl) ?_)
      refine pt_d (pt_ldc2_w (c := 2000000000) gx280_81 rfl (fun v7 h7 => ?_))
      refine pt_d (pt_lcmp_le gx280_84 gx280_85 z2 h7 (fun e8 => ?_) (fun e8 => ?_))
      · have H := H.1 e8
        refine pt_d (pt_1 (fun n d => r_lloadn gx280_94 rfl) ?_)
        refine pt_d (pt_l2i gx280_95 z2 (fun v9 h9 => ?_))
        exact pt_d (pt_iret gx280_96 ⟨_, rfl, by rw [h9]; exact H⟩)
      · have H := H.2 e8
        refine pt_d (pt_ldc_w (c := 2000000000) gx280_88 rfl (fun v10 h10 => ?_))
        refine pt_d (pt_1 (fun n d => r_goto gx280_91) ?_)
        exact pt_d (pt_iret gx280_96 ⟨_, rfl, by rw [h10]; exact H⟩)
    · have H := H.2 e6
      refine pt_d (pt_ldc_w (c := (-1999999999)) gx280_74 rfl (fun v11 h11 => ?_))
      refine pt_d (pt_1 (fun n d => r_goto gx280_77) ?_)
      exact pt_d (pt_iret gx280_96 ⟨_, rfl, by rw [h11]; exact H⟩)
  · have H := H.2 e4
    refine pt_d (pt_1 (fun n d => r_lloadn gx280_30 rfl) ?_)
    refine pt_d (pt_1 (fun n d => r_aloadn gx280_31 rfl) ?_)
    refine pt_d (pt_1 (fun n d => r_iloadn gx280_32 rfl) ?_)
    refine pt_d (pt_1 (fun n d => r_iload gx280_33 rfl) ?_)
    refine pt_d (pt_1 (fun n d => r_aloadn gx280_35 rfl) ?_)
    refine pt_d (pt_getI (B := 1) gx280_36 S (fun v12 h12 => ?_))
    refine pt_d (pt_iconst gx280_39 (fun v13 h13 => ?_))
    obtain ⟨pr14, H⟩ := H
    refine pt_d (pt_virt (as := [.int x1, .int x4, .int v12, .int v13]) (r := [.long x2]) gx280_40 rfl (show zmt[277]? = some zM277 from rfl) rfl rfl rfl rfl (c_277p S z1 z4 h12 h13 pr14) (kqI (fun v14 y14 h_14 h14 P14 => ?_)))
    have S14 := P14.1
    have H := H y14 h_14 P14
    show Pt _ _ _ 43 _ [.int v14, .long x2] _ _
    refine pt_d (pt_i2l gx280_43 h14 (fun v15 h15 => ?_))
    refine pt_d (pt_1 (fun n d => r_aloadn gx280_44 rfl) ?_)
    refine pt_d (pt_getR gx280_45 S14 tr_72_76 ?_)
    refine pt_d (pt_bipush gx280_48 (fun v17 h17 => ?_))
    refine pt_d (pt_1 (fun n d => r_iloadn gx280_50 rfl) ?_)
    refine pt_d (pt_imul gx280_51 h17 z1 (fun v18 h18 => ?_))
    refine pt_d (pt_1 (fun n d => r_iload gx280_52 rfl) ?_)
    refine pt_d (pt_iadd gx280_54 h18 z4 (fun v19 h19 => ?_))
    refine pt_d (pt_iald (N' := 1500) gx280_55 S14 tl_129 h19 (fun v20 p20 q20 h20 => ?_))
    have H := H p20 q20
    refine pt_d (pt_i2l gx280_56 h20 (fun v21 h21 => ?_))
    refine pt_d (pt_lsub gx280_57 h15 h21 (fun v22 h22 => ?_))
    refine pt_d (pt_ladd gx280_58 z2 h22 (fun v23 h23 => ?_))
    refine pt_d (pt_1 (fun n d => r_lstoren (L' := [some (.ref 72), some (.int x1), some (.long v23), none, some (.int x4)]) gx280_59 rfl rfl) ?_)
    refine pt_d (pt_iinc (c := 1) gx280_60 rfl z4 (fun v24 h24 => ?_))
    show Pt _ _ _ _ [some (.ref 72), some (.int x1), some (.long v23), none, some (.int v24)] [] _ _
    refine pt_d (pt_1 (fun n d => r_goto gx280_63) ?_)
    exact H v23 v24 h23 h24
def R173 (V V' : vS) (f r : Int) (W : vS) : Prop := (¬ cFarm V f ∧ r = -2000000000 ∧ W = V') ∨ (cFarm V f ∧ r = hlB (bkF V f (iDiv (V 1 0) 365).toNat) ∧ uf V W ∧ ∀ j, W 46 j = V 46 j ∧ W 129 j = V 129 j)
theorem c_173w {n : Nat} {X : aX} {h : aH} {x1 : Int32} {a1 : Int} (S : wS h) (z1 : x1.toInt = a1) (I : IV h) (B : PB (vw h)) (d : 0 ≤ vw h 1 0 ∧ vw h 1 0 ≤ 3649) (J : JSet (vw h)) : Pt n X zM173 0 [some (.ref 0), some (.int x1)] [] h (qI (fun r h' => R173 (vw h) (vw h) a1 r (vw h') ∧ IV h')) :=
  pt_d (d173_0 S z1 ⟨fun e => ⟨Or.inl ⟨e, rfl, rfl⟩, I⟩, fun e => ⟨⟨⟨I, B, e⟩, d, J⟩, fun y g k => ⟨Or.inr ⟨e, k.2.1, k.2.2.2.1, k.2.2.2.2⟩, k.2.2.1⟩⟩⟩)
theorem l_280 {X : aX} {h0 : aH} {f : Int} (hp : pr15 h0 f) (hd : vw h0 1 0 = vw h0 72 1) : ∀ (n : Nat) (h : aH) (x1 x4 : Int32) (x2 : Int64) (k : Nat), wS h → IV h → uf (vw h0) (vw h) → (∀ j, vw h 46 j = vw h0 46 j ∧ vw h 129 j = vw h0 129 j) → x1.toInt = f → x2.toInt = bkF (vw h0) f k → x4.toInt = (k : Int) → (k : Int) ≤ iDiv (vw h0 1 0) 365 → Pt n X zM280 17 [some (.ref 72), some (.int x1), some (.long x2), none, some (.int x4)] [] h (qI (fun r h' => R15 h0 f r h')) := by
  obtain ⟨⟨I0, B, cf⟩, d, J⟩ := hp
  have fb := (PB_l B cf).1
  have yb := yr_b d
  intro n
  induction n with
  | zero => exact fun _ _ _ _ _ _ _ _ _ _ _ _ _ => pt_z
  | succ n ih =>
    intro h x1 x4 x2 k S I u e46 h1 h2 h4 hk
    have bb := bkF_b J fb k (by omega)
    have e72 : vw h 72 1 = vw h0 1 0 := (u 72 1 (by decide) (Or.inl (by decide)) (by decide)).trans hd.symm
    have fin' : ∀ r, r = hlB (bkF (vw h0) f k) → iDiv (vw h0 1 0) 365 ≤ (k : Int) → R15 h0 f r h := fun r er ge => by
      have kn : (iDiv (vw h0 1 0) 365).toNat = k := by omega
      exact ⟨S, by rw [kn]; exact er, I, u, e46⟩
    have D := d280_17 (n := n) (X := X) (h := h) (P := fun r h' => R15 h0 f r h') S h1 h2 h4
    rw [e72] at D
    refine D ⟨fun ge => ⟨fun lo => ⟨fun hi => fin' _ ?_ ge, fun hi => fin' _ ?_ ge⟩, fun lo => fin' _ ?_ ge⟩, fun lt => ⟨⟨I, PB_u u B, (by
      have c := cf
      unfold cFarm cBody at c ⊢
      rw [u 1 1 (by decide) (Or.inl (by decide)) (Or.inl (by decide)), u 2 f (by decide) (Or.inl (by decide)) (Or.inl (by decide))]
      exact c), by omega, d, Or.inl rfl⟩, fun y14 h14 R _ _ w2 w4 g2 g4 => ?_⟩⟩
    · unfold hlB
      rw [w32_id (by omega) (by omega)]
      omega
    · unfold hlB
      omega
    · unfold hlB
      omega
    · obtain ⟨S14, ⟨I14, u14⟩, ⟨ev, -⟩, -, fr⟩ := R
      have i46 : ∀ j, vw h14 46 j = vw h0 46 j := fun j => (fr 46 j (Or.inl (by decide)) (Or.inl (by decide)) (Or.inl (by decide))).trans (e46 j).1
      have i129 : ∀ j, vw h14 129 j = vw h0 129 j := fun j => (fr 129 j (Or.inr (by decide)) (Or.inr (by decide)) (Or.inl (by decide))).trans (e46 j).2
      rw [payF_u u] at ev
      have pb := payF_b (vw h0) f (k : Nat) (vw h0 1 0) (-1)
      have sb := J (10 * f + (k : Nat)) (by omega) (by omega)
      rw [ix10 fb (by omega), i129, ← sb.1, ev, w64_id (z := payF (vw h0) f (k : Nat) (vw h0 1 0) (-1) - vw h0 46 (10 * f + (k : Nat))) (by omega) (by omega), w64_id (by omega) (by omega)] at g2
      replace g4 := w_1 g4 (by omega) (by omega)
      exact ih h14 x1 w4 w2 (k + 1) S14 I14 (uf_t u u14) (fun j => ⟨i46 j, i129 j⟩) h1 g2 (by omega) (by omega)
theorem c_280w {n : Nat} {X : aX} {h : aH} {x1 : Int32} {a1 : Int} (S : wS h) (z1 : x1.toInt = a1) (I : IV h) (B : PB (vw h)) (d : 0 ≤ vw h 1 0 ∧ vw h 1 0 ≤ 3649) (J : JSet (vw h)) (hd : vw h 1 0 = vw h 72 1) : Pt n X zM280 0 [some (.ref 72), some (.int x1), none, none, none] [] h (qI (fun r h' => R173 (vw h) (vw h) a1 r (vw h') ∧ IV h')) := by
  have Bd := B.1.1.2.1
  refine pt_d (d280_0 S z1 ⟨fun e w2 w4 g2 g4 => ?_, fun e => ⟨Or.inl ⟨fun z => e ((farm_j Bd a1).mp z), rfl, rfl⟩, I⟩⟩)
  have cf := (farm_j Bd a1).mpr e
  refine pt_q (l_280 ⟨⟨I, B, cf⟩, d, J⟩ hd n h x1 w4 w2 0 S I (uf_r _) (fun _ => ⟨rfl, rfl⟩) z1 g2 g4 (yr_b d).1) ?_
  rintro v h' ⟨x, ex, k⟩
  exact ⟨x, ex, Or.inr ⟨cf, k.2.1, k.2.2.2.1, k.2.2.2.2⟩, k.2.2.1⟩
theorem uf_hd {V W : vS} (a : uf V W) (hd : V 1 0 = V 72 1) : W 1 0 = W 72 1 := by
  rw [a 1 0 (by decide) (Or.inl (by decide)) (Or.inl (by decide)), a 72 1 (by decide) (Or.inl (by decide)) (by decide)]
  exact hd
theorem bkF_u {V W : vS} (a : uf V W) (e : ∀ j, W 46 j = V 46 j) (f : Int) : ∀ n : Nat, bkF W f n = bkF V f n
  | 0 => rfl
  | n + 1 => by
    have h : ∀ V : vS, bkF V f (n + 1) = bkF V f n + (payF V f (n : Nat) (V 1 0) (-1) - V 46 (10 * f + (n : Nat))) := fun _ => rfl
    rw [h, h, bkF_u a e f n, payF_u a, e, a 1 0 (by decide) (Or.inl (by decide)) (Or.inl (by decide))]
theorem R173_B {V : vS} {f r : Int} {W : vS} (c : R173 V V f r W) : uf V W ∧ ∀ j, W 46 j = V 46 j ∧ W 129 j = V 129 j := by
  rcases c with ⟨-, -, rfl⟩ | ⟨-, -, u, e⟩
  · exact ⟨uf_r _, fun _ => ⟨rfl, rfl⟩⟩
  · exact ⟨u, e⟩
theorem jx_29 {h h1 h2 : aH} {f r1 r2 : Int} (c : R173 (vw h) (vw h) f r1 (vw h1) ∧ IV h1) (k : R173 (vw h1) (vw h1) f r2 (vw h2) ∧ IV h2) : (JSea (vw h2) ∧ JRk (vw h2)) ∧ r1 = r2 := by
  refine ⟨⟨JSea_IV k.2, rOK_IV k.2⟩, ?_⟩
  obtain ⟨u, e⟩ := R173_B c.1
  have cF : cFarm (vw h1) f ↔ cFarm (vw h) f := by
    unfold cFarm cBody
    rw [u 1 1 (by decide) (Or.inl (by decide)) (Or.inl (by decide)), u 2 f (by decide) (Or.inl (by decide)) (Or.inl (by decide))]
  rcases c.1 with ⟨n, rfl, -⟩ | ⟨o, rfl, -⟩
  · rcases k.1 with ⟨-, rfl, -⟩ | ⟨o, -⟩
    · rfl
    · exact absurd (cF.mp o) n
  · rcases k.1 with ⟨n, -⟩ | ⟨-, rfl, -⟩
    · exact absurd (cF.mpr o) n
    · rw [u 1 0 (by decide) (Or.inl (by decide)) (Or.inl (by decide)), bkF_u u (fun j => (e j).1)]
end
section
-- ===== texts tried =====
theorem d119_0 {n : Nat} {X : aX} {h : aH} {P : Int → aH → Prop} {x1 : Int32} {a1 : Int} (S : wS h) (z1 : x1.toInt = a1) (H : ((¬ (0 ≤ a1 ∧ a1 ≤ (w32 ((vw h 33 7) - 1))) → P 0 h) ∧ ((0 ≤ a1 ∧ a1 ≤ (w32 ((vw h 33 7) - 1))) → (0 ≤ a1 → a1 < 16 → ((iRem (vw h 37 a1) 10 ≠ 0 → P 0 h) ∧ (iRem (vw h 37 a1) 10 = 0 → P 1 h)))))) : Pt (n + 1) X zM119 0 [some (.ref 33), some (.int x1)] [] h (qI P) := by
  refine pt_1 (fun n d => r_iloadn gx119_0 rfl) ?_
  refine pt_d (pt_iconst gx119_1 (fun v1 h1 => ?_))
  refine pt_d (pt_1 (fun n d => r_aloadn gx119_2 rfl) ?_)
  refine pt_d (pt_getI (B := 7) gx119_3 S (fun v2 h2 => ?_))
  refine pt_d (pt_iconst gx119_6 (fun v3 h3 => ?_))
  refine pt_d (pt_isub gx119_7 h2 h3 (fun v4 h4 => ?_))
  refine pt_d (pt_stat (as := [.int x1, .int v1, .int v4]) (r := []) gx119_8 rfl (show zmt[137]? = some zM137 from rfl) rfl rfl rfl rfl (c_137 S z1 h1 h4) (kqP (fun v5 h5 => ?_)))
  show Pt _ _ _ 11 _ [.int v5] _ _
  refine pt_d (pt_ifB_eq gx119_11 h5 (fun e6 => ?_) (fun e6 => ?_))
  · have H := H.1 e6
    refine pt_d (pt_iconst gx119_30 (fun v7 h7 => ?_))
    exact pt_d (pt_iret gx119_31 ⟨_, rfl, by rw [h7]; exact H⟩)
  · have H := H.2 e6
    refine pt_d (pt_1 (fun n d => r_aloadn gx119_14 rfl) ?_)
    refine pt_d (pt_getR gx119_15 S tr_33_4 ?_)
    refine pt_d (pt_1 (fun n d => r_iloadn gx119_18 rfl) ?_)
    refine pt_d (pt_iald (N' := 16) gx119_19 S tl_37 z1 (fun v9 p9 q9 h9 => ?_))
    have H := H p9 q9
    refine pt_d (pt_bipush gx119_20 (fun v10 h10 => ?_))
    refine pt_d (pt_irem gx119_22 h9 h10 (fun v11 h11 => ?_))
    refine pt_d (pt_if_ne gx119_23 h11 (fun e12 => ?_) (fun e12 => ?_))
    · have H := H.1 e12
      refine pt_d (pt_iconst gx119_30 (fun v13 h13 => ?_))
      exact pt_d (pt_iret gx119_31 ⟨_, rfl, by rw [h13]; exact H⟩)
    · have H := H.2 e12
      refine pt_d (pt_iconst gx119_26 (fun v14 h14 => ?_))
      refine pt_d (pt_1 (fun n d => r_goto gx119_27) ?_)
      exact pt_d (pt_iret gx119_31 ⟨_, rfl, by rw [h14]; exact H⟩)
def isR (V : vS) (t : Int) : Prop := (0 ≤ t ∧ t ≤ w32 (V 33 7 - 1)) ∧ iRem (V 37 t) 10 = 0
theorem c_119 {n : Nat} {X : aX} {h : aH} {x1 : Int32} {a1 : Int} (S : wS h) (z1 : x1.toInt = a1) : Pt n X zM119 0 [some (.ref 33), some (.int x1)] [] h (qI (fun y h' => h' = h ∧ y = bI (isR (vw h) a1))) :=
  pt_d (d119_0 S z1 ⟨fun e => ⟨rfl, (bI_f (fun z => e z.1)).symm⟩, fun e _ _ => ⟨fun e2 => ⟨rfl, (bI_f (fun z => e2 z.2)).symm⟩, fun e2 => ⟨rfl, (bI_t ⟨e, e2⟩).symm⟩⟩⟩)
def cmpT (V : vS) (tx y w f : Int) : Prop := (w = 0 ∧ payF V f y (V 1 0) (-1) < payF V f y (V 1 0) tx) ∨ (w ≠ 0 ∧ payF V f y (V 1 0) tx < payF V f y (V 1 0) (-1))
def trP (V : vS) (tx l y w f : Int) : Prop := (cFarm V f ∧ V 3 f = l) ∧ cmpT V tx y w f
theorem cFarm_u {V W : vS} (u : uf V W) (f : Int) : cFarm W f ↔ cFarm V f := by
  unfold cFarm cBody
  rw [u 1 1 (by decide) (Or.inl (by decide)) (Or.inl (by decide)), u 2 f (by decide) (Or.inl (by decide)) (Or.inl (by decide))]
theorem trP_u {V W : vS} (u : uf V W) (tx l y w f : Int) : trP W tx l y w f ↔ trP V tx l y w f := by
  unfold trP cmpT
  rw [cFarm_u u, u 3 f (by decide) (Or.inl (by decide)) (Or.inl (by decide)), u 1 0 (by decide) (Or.inl (by decide)) (Or.inl (by decide)), payF_u u, payF_u u]
theorem isR_u {V W : vS} (u : uf V W) (t : Int) : isR W t ↔ isR V t := by
  unfold isR
  rw [u 33 7 (by decide) (Or.inr (by decide)) (Or.inl (by decide)), u 37 t (by decide) (Or.inl (by decide)) (Or.inl (by decide))]
theorem isR_b {V : vS} (T : JTxt V) {t : Int} (h : isR V t) : 0 ≤ t ∧ t < V 33 7 := by
  have j := T.2.2.1
  have h1 := h.1
  rw [w32_id (by omega) (by omega)] at h1
  omega
def pr18 (h : aH) (tx y : Int) : Prop := (IV h ∧ PB (vw h) ∧ isR (vw h) tx) ∧ (0 ≤ y ∧ y ≤ 9) ∧ 0 ≤ vw h 1 0 ∧ vw h 1 0 ≤ 3649
def R18 (h : aH) (tx l y g r : Int) (h' : aH) : Prop := wS h' ∧ r = nQ (trP (vw h) tx l y (if g = 0 then 1 else 0)) (vw h 1 1).toNat ∧ IV h' ∧ uf (vw h) (vw h')
theorem prT_u {h0 h : aH} {tx y k r : Int} (hp : pr18 h0 tx y) (I : IV h) (u : uf (vw h0) (vw h)) (cf : cFarm (vw h0) k) (hr : r = -1 ∨ r = tx) : pr8p h k y (vw h 1 0) r := by
  obtain ⟨⟨-, B, R⟩, hy, d⟩ := hp
  have e10 : vw h 1 0 = vw h0 1 0 := u 1 0 (by decide) (Or.inl (by decide)) (Or.inl (by decide))
  have e7 : vw h 33 7 = vw h0 33 7 := u 33 7 (by decide) (Or.inr (by decide)) (Or.inl (by decide))
  have rb := isR_b B.2.2.2.2.2.1 R
  exact ⟨I, PB_u u B, (cFarm_u u k).mpr cf, hy, by rw [e10]; exact d, by rw [e7]; omega⟩

theorem d18_0 {n : Nat} {X : aX} {h : aH} {P : Int → aH → Prop} {x1 x2 x3 x4 : Int32} {a1 a2 a3 a4 : Int} (S : wS h) (z1 : x1.toInt = a1) (z2 : x2.toInt = a2) (z3 : x3.toInt = a3) (z4 : x4.toInt = a4) (H : (∀ (w5 : Int32) (w6 : Int32) (u7_ : Option Value) (u8_ : Option Value), w5.toInt = 0 → w6.toInt = 0 → Pt n X zM18 6 [some (.ref 41), some (.int x1), some (.int x2), some (.int x3), some (.int x4), some (.int w5), some (.int w6), u7_, u8_] [] h (qI P))) : Pt (n + 1) X zM18 0 [some (.ref 41), some (.int x1), some (.int x2), some (.int x3), some (.int x4), none, none, none, none] [] h (qI P) := by
  refine pt_iconst gx18_0 (fun v1 h1 => ?_)
  refine pt_d (pt_1 (fun n d => r_istore (L' := [some (.ref 41), some (.int x1), some (.int x2), some (.int x3), some (.int x4), some (.int v1), none, none, none]) gx18_1 rfl rfl) ?_)
  refine pt_d (pt_iconst gx18_3 (fun v2 h2 => ?_))
  refine pt_d (pt_1 (fun n d => r_istore (L' := [some (.ref 41), some (.int x1), some (.int x2), some (.int x3), some (.int x4), some (.int v1), some (.int v2), none, none]) gx18_4 rfl rfl) ?_)
  exact H v1 v2 _ _ h1 h2
theorem d18_6 {n : Nat} {X : aX} {h : aH} {P : Int → aH → Prop} {x1 x2 x3 x4 x5 x6 : Int32} {a1 a2 a3 a4 a5 a6 : Int} {u7 u8 : Option Value} (S : wS h) (z1 : x1.toInt = a1) (z2 : x2.toInt = a2) (z3 : x3.toInt = a3) (z4 : x4.toInt = a4) (z5 : x5.toInt = a5) (z6 : x6.toInt = a6) (H : ((vw h 1 1 ≤ a6 → P a5 h) ∧ (a6 < vw h 1 1 → ((¬ (cFarm (vw h) a6 ∧ (vw h) 3 a6 = a2) → (∀ (w6 : Int32) (u7_ : Option Value) (u8_ : Option Value), w6.toInt = w32 (a6 + 1) → Pt n X zM18 6 [some (.ref 41), some (.int x1), some (.int x2), some (.int x3), some (.int x4), some (.int x5), some (.int w6), u7_, u8_] [] h (qI P))) ∧ ((cFarm (vw h) a6 ∧ (vw h) 3 a6 = a2) → ((pr8p h a6 a3 (vw h 1 0) (-1)) ∧ ∀ (y11 : Int) (h_11 : aH), (RP8 h a6 a3 (vw h 1 0) (-1) y11 h_11) → ((pr8p h_11 a6 a3 (vw h_11 1 0) a1) ∧ ∀ (y14 : Int) (h_14 : aH), (RP8 h_11 a6 a3 (vw h_11 1 0) a1 y14 h_14) → ((a4 = 0 → ((y11 ≤ y14 → (∀ (w5 : Int32) (w6 : Int32) (u7_ : Option Value) (u8_ : Option Value), w5.toInt = w32 (a5 + 0) → w6.toInt = w32 (a6 + 1) → Pt n X zM18 6 [some (.ref 41), some (.int x1), some (.int x2), some (.int x3), some (.int x4), some (.int w5), some (.int w6), u7_, u8_] [] h_14 (qI P))) ∧ (y14 < y11 → (∀ (w5 : Int32) (w6 : Int32) (u7_ : Option Value) (u8_ : Option Value), w5.toInt = w32 (a5 + 1) → w6.toInt = w32 (a6 + 1) → Pt n X zM18 6 [some (.ref 41), some (.int x1), some (.int x2), some (.int x3), some (.int x4), some (.int w5), some (.int w6), u7_, u8_] [] h_14 (qI P))))) ∧ (a4 ≠ 0 → ((y14 ≤ y11 → (∀ (w5 : Int32) (w6 : Int32) (u7_ : Option Value) (u8_ : Option Value), w5.toInt = w32 (a5 + 0) → w6.toInt = w32 (a6 + 1) → Pt n X zM18 6 [some (.ref 41), some (.int x1), some (.int x2), some (.int x3), some (.int x4), some (.int w5), some (.int w6), u7_, u8_] [] h_14 (qI P))) ∧ (y11 < y14 → (∀ (w5 : Int32) (w6 : Int32) (u7_ : Option Value) (u8_ : Option Value), w5.toInt = w32 (a5 + 1) → w6.toInt = w32 (a6 + 1) → Pt n X zM18 6 [some (.ref 41), some (.int x1), some (.int x2), some (.int x3), some (.int x4), some (.int w5), some (.int w6), u7_, u8_] [] h_14 (qI P))))))))))))) : Pt (n + 1) X zM18 6 [some (.ref 41), some (.int x1), some (.int x2), some (.int x3), some (.int x4), some (.int x5), some (.int x6), u7, u8] [] h (qI P) := by
  refine pt_1 (fun n d => r_iload gx18_6 rfl) ?_
  refine pt_d (pt_1 (fun n d => r_aloadn gx18_8 rfl) ?_)
  refine pt_d (pt_getR gx18_9 S tr_41_0 ?_)
  refine pt_d (pt_getI (B := 1) gx18_12 S (fun v2 h2 => ?_))
  refine pt_d (pt_icmp_ge gx18_15 z6 h2 (fun e3 => ?_) (fun e3 => ?_))
  · have H := H.1 e3
    refine pt_d (pt_1 (fun n d => r_iload gx18_103 rfl) ?_)
    exact pt_d (pt_iret gx18_105 ⟨_, rfl, by rw [z5]; exact H⟩)
  · have H := H.2 e3
    refine pt_d (pt_1 (fun n d => r_aloadn gx18_18 rfl) ?_)
    refine pt_d (pt_getR gx18_19 S tr_41_0 ?_)
    refine pt_d (pt_1 (fun n d => r_iload gx18_22 rfl) ?_)
    refine pt_d (pt_1 (fun n d => r_iloadn gx18_24 rfl) ?_)
    refine pt_d (pt_virt (as := [.int x6, .int x2]) (r := []) gx18_25 rfl (show zmt[76]? = some zM76 from rfl) rfl rfl rfl rfl (c_76 S z6 z2) (kqP (fun v5 h5 => ?_)))
    show Pt _ _ _ 28 _ [.int v5] _ _
    refine pt_d (pt_ifB_eq gx18_28 h5 (fun e6 => ?_) (fun e6 => ?_))
    · have H := H.1 e6
      refine pt_d (pt_iinc (c := 1) gx18_97 rfl z6 (fun v7 h7 => ?_))
      show Pt _ _ _ _ [some (.ref 41), some (.int x1), some (.int x2), some (.int x3), some (.int x4), some (.int x5), some (.int v7), u7, u8] [] _ _
      refine pt_d (pt_1 (fun n d => r_goto gx18_100) ?_)
      exact H v7 _ _ h7
    · have H := H.2 e6
      refine pt_d (pt_1 (fun n d => r_aloadn gx18_31 rfl) ?_)
      refine pt_d (pt_1 (fun n d => r_iload gx18_32 rfl) ?_)
      refine pt_d (pt_1 (fun n d => r_iloadn gx18_34 rfl) ?_)
      refine pt_d (pt_1 (fun n d => r_aloadn gx18_35 rfl) ?_)
      refine pt_d (pt_getR gx18_36 S tr_41_0 ?_)
      refine pt_d (pt_getI (B := 0) gx18_39 S (fun v9 h9 => ?_))
      refine pt_d (pt_iconst gx18_42 (fun v10 h10 => ?_))
      obtain ⟨pr11, H⟩ := H
      refine pt_d (pt_virt (as := [.int x6, .int x3, .int v9, .int v10]) (r := []) gx18_43 rfl (show zmt[8]? = some zM8 from rfl) rfl rfl rfl rfl (c_8p S z6 z3 h9 h10 pr11) (kqI (fun v11 y11 h_11 h11 P11 => ?_)))
      have S11 := P11.1
      have H := H y11 h_11 P11
      show Pt _ _ _ 46 _ [.int v11] _ _
      refine pt_d (pt_1 (fun n d => r_istore (L' := [some (.ref 41), some (.int x1), some (.int x2), some (.int x3), some (.int x4), some (.int x5), some (.int x6), some (.int v11), u8]) gx18_46 rfl rfl) ?_)
      refine pt_d (pt_1 (fun n d => r_aloadn gx18_48 rfl) ?_)
      refine pt_d (pt_1 (fun n d => r_iload gx18_49 rfl) ?_)
      refine pt_d (pt_1 (fun n d => r_iloadn gx18_51 rfl) ?_)
      refine pt_d (pt_1 (fun n d => r_aloadn gx18_52 rfl) ?_)
      refine pt_d (pt_getR gx18_53 S11 tr_41_0 ?_)
      refine pt_d (pt_getI (B := 0) gx18_56 S11 (fun v13 h13 => ?_))
      refine pt_d (pt_1 (fun n d => r_iloadn gx18_59 rfl) ?_)
      obtain ⟨pr14, H⟩ := H
      refine pt_d (pt_virt (as := [.int x6, .int x3, .int v13, .int x1]) (r := []) gx18_60 rfl (show zmt[8]? = some zM8 from rfl) rfl rfl rfl rfl (c_8p S11 z6 z3 h13 z1 pr14) (kqI (fun v14 y14 h_14 h14 P14 => ?_)))
      have S14 := P14.1
      have H := H y14 h_14 P14
      show Pt _ _ _ 63 _ [.int v14] _ _
      refine pt_d (pt_1 (fun n d => r_istore (L' := [some (.ref 41), some (.int x1), some (.int x2), some (.int x3), some (.int x4), some (.int x5), some (.int x6), some (.int v11), some (.int v14)]) gx18_63 rfl rfl) ?_)
      refine pt_d (pt_1 (fun n d => r_iload gx18_65 rfl) ?_)
      refine pt_d (pt_1 (fun n d => r_iload gx18_67 rfl) ?_)
      refine pt_d (pt_if_eq gx18_69 z4 (fun e15 => ?_) (fun e15 => ?_))
      · have H := H.1 e15
        refine pt_d (pt_1 (fun n d => r_iload gx18_82 rfl) ?_)
        refine pt_d (pt_1 (fun n d => r_iload gx18_84 rfl) ?_)
        refine pt_d (pt_icmp_ge gx18_86 h14 h11 (fun e16 => ?_) (fun e16 => ?_))
        · have H := H.1 e16
          refine pt_d (pt_iconst gx18_93 (fun v17 h17 => ?_))
          refine pt_d (pt_iadd gx18_94 z5 h17 (fun v18 h18 => ?_))
          refine pt_d (pt_1 (fun n d => r_istore (L' := [some (.ref 41), some (.int x1), some (.int x2), some (.int x3), some (.int x4), some (.int v18), some (.int x6), some (.int v11), some (.int v14)]) gx18_95 rfl rfl) ?_)
          refine pt_d (pt_iinc (c := 1) gx18_97 rfl z6 (fun v19 h19 => ?_))
          show Pt _ _ _ _ [some (.ref 41), some (.int x1), some (.int x2), some (.int x3), some (.int x4), some (.int v18), some (.int v19), some (.int v11), some (.int v14)] [] _ _
          refine pt_d (pt_1 (fun n d => r_goto gx18_100) ?_)
          exact H v18 v19 _ _ h18 h19
        · have H := H.2 e16
          refine pt_d (pt_iconst gx18_89 (fun v20 h20 => ?_))
          refine pt_d (pt_1 (fun n d => r_goto gx18_90) ?_)
          refine pt_d (pt_iadd gx18_94 z5 h20 (fun v21 h21 => ?_))
          refine pt_d (pt_1 (fun n d => r_istore (L' := [some (.ref 41), some (.int x1), some (.int x2), some (.int x3), some (.int x4), some (.int v21), some (.int x6), some (.int v11), some (.int v14)]) gx18_95 rfl rfl) ?_)
          refine pt_d (pt_iinc (c := 1) gx18_97 rfl z6 (fun v22 h22 => ?_))
          show Pt _ _ _ _ [some (.ref 41), some (.int x1), some (.int x2), some (.int x3), some (.int x4), some (.int v21), some (.int v22), some (.int v11), some (.int v14)] [] _ _
          refine pt_d (pt_1 (fun n d => r_goto gx18_100) ?_)
          exact H v21 v22 _ _ h21 h22
      · have H := H.2 e15
        refine pt_d (pt_1 (fun n d => r_iload gx18_72 rfl) ?_)
        refine pt_d (pt_1 (fun n d => r_iload gx18_74 rfl) ?_)
        refine pt_d (pt_icmp_le gx18_76 h14 h11 (fun e23 => ?_) (fun e23 => ?_))
        · have H := H.1 e23
          refine pt_d (pt_iconst gx18_93 (fun v24 h24 => ?_))
          refine pt_d (pt_iadd gx18_94 z5 h24 (fun v25 h25 => ?_))
          refine pt_d (pt_1 (fun n d => r_istore (L' := [some (.ref 41), some (.int x1), some (.int x2), some (.int x3), some (.int x4), some (.int v25), some (.int x6), some (.int v11), some (.int v14)]) gx18_95 rfl rfl) ?_)
          refine pt_d (pt_iinc (c := 1) gx18_97 rfl z6 (fun v26 h26 => ?_))
          show Pt _ _ _ _ [some (.ref 41), some (.int x1), some (.int x2), some (.int x3), some (.int x4), some (.int v25), some (.int v26), some (.int v11), some (.int v14)] [] _ _
          refine pt_d (pt_1 (fun n d => r_goto gx18_100) ?_)
          exact H v25 v26 _ _ h25 h26
        · have H := H.2 e23
          refine pt_d (pt_1 (fun n d => r_goto gx18_79) ?_)
          refine pt_d (pt_iconst gx18_89 (fun v27 h27 => ?_))
          refine pt_d (pt_1 (fun n d => r_goto gx18_90) ?_)
          refine pt_d (pt_iadd gx18_94 z5 h27 (fun v28 h28 => ?_))
          refine pt_d (pt_1 (fun n d => r_istore (L' := [some (.ref 41), some (.int x1), some (.int x2), some (.int x3), some (.int x4), some (.int v28), some (.int x6), some (.int v11), some (.int v14)]) gx18_95 rfl rfl) ?_)
          refine pt_d (pt_iinc (c := 1) gx18_97 rfl z6 (fun v29 h29 => ?_))
          show Pt _ _ _ _ [some (.ref 41), some (.int x1), some (.int x2), some (.int x3), some (.int x4), some (.int v28), some (.int v29), some (.int v11), some (.int v14)] [] _ _
          refine pt_d (pt_1 (fun n d => r_goto gx18_100) ?_)
          exact H v28 v29 _ _ h28 h29
theorem l_18 {X : aX} {h0 : aH} {tx l y g : Int} (hp : pr18 h0 tx y) : ∀ (n : Nat) (h : aH) (x1 x2 x3 x4 x5 x6 : Int32) (u7 u8 : Option Value) (k : Nat), wS h → IV h → uf (vw h0) (vw h) → x1.toInt = tx → x2.toInt = l → x3.toInt = y → x4.toInt = g → x5.toInt = nQ (trP (vw h0) tx l y (if g = 0 then 1 else 0)) k → x6.toInt = (k : Int) → (k : Int) ≤ vw h0 1 1 → Pt n X zM18 6 [some (.ref 41), some (.int x1), some (.int x2), some (.int x3), some (.int x4), some (.int x5), some (.int x6), u7, u8] [] h (qI (fun r h' => R18 h0 tx l y g r h')) := by
  have Bd := hp.1.2.1.1.1.2.1
  have n0 := Bd.2.2.2.2.2.1
  have n1 := Bd.2.2.2.2.2.2.1
  intro n
  induction n with
  | zero => exact fun _ _ _ _ _ _ _ _ _ _ _ _ _ _ _ _ _ _ _ _ => pt_z
  | succ n ih =>
    intro h x1 x2 x3 x4 x5 x6 u7 u8 k S I u h1 h2 h3 h4 h5 h6 hk
    have e11 : vw h 1 1 = vw h0 1 1 := u 1 1 (by decide) (Or.inl (by decide)) (Or.inl (by decide))
    have e3 : vw h 3 (k : Nat) = vw h0 3 (k : Nat) := u 3 _ (by decide) (Or.inl (by decide)) (Or.inl (by decide))
    have e10 : vw h 1 0 = vw h0 1 0 := u 1 0 (by decide) (Or.inl (by decide)) (Or.inl (by decide))
    have nb := nQ_b (trP (vw h0) tx l y (if g = 0 then 1 else 0)) k
    have skip : ∀ (h' : aH) (w5 w6 : Int32) (v7 v8 : Option Value), wS h' → IV h' → uf (vw h0) (vw h') → (k : Int) < vw h0 1 1 → ¬ trP (vw h0) tx l y (if g = 0 then 1 else 0) (k : Nat) → (w5.toInt = nQ (trP (vw h0) tx l y (if g = 0 then 1 else 0)) k ∨ w5.toInt = w32 (nQ (trP (vw h0) tx l y (if g = 0 then 1 else 0)) k + 0)) → w6.toInt = w32 ((k : Int) + 1) → Pt n X zM18 6 [some (.ref 41), some (.int x1), some (.int x2), some (.int x3), some (.int x4), some (.int w5), some (.int w6), v7, v8] [] h' (qI (fun r h' => R18 h0 tx l y g r h')) := by
      intro h' w5 w6 v7 v8 S' I' u' lt z g5 g6
      replace g6 := w_1 g6 (by omega) (by omega)
      refine ih h' x1 x2 x3 x4 w5 w6 v7 v8 (k + 1) S' I' u' h1 h2 h3 h4 ?_ (by omega) (by omega)
      rw [nQ_f z, Int.add_zero]
      rcases g5 with e | e
      · exact e
      · rw [e, Int.add_zero, w32_id (by omega) (by omega)]
    have take : ∀ (h' : aH) (w5 w6 : Int32) (v7 v8 : Option Value), wS h' → IV h' → uf (vw h0) (vw h') → (k : Int) < vw h0 1 1 → trP (vw h0) tx l y (if g = 0 then 1 else 0) (k : Nat) → w5.toInt = w32 (nQ (trP (vw h0) tx l y (if g = 0 then 1 else 0)) k + 1) → w6.toInt = w32 ((k : Int) + 1) → Pt n X zM18 6 [some (.ref 41), some (.int x1), some (.int x2), some (.int x3), some (.int x4), some (.int w5), some (.int w6), v7, v8] [] h' (qI (fun r h' => R18 h0 tx l y g r h')) := by
      intro h' w5 w6 v7 v8 S' I' u' lt z g5 g6
      replace g6 := w_1 g6 (by omega) (by omega)
      replace g5 := w_1 g5 (by omega) (by omega)
      refine ih h' x1 x2 x3 x4 w5 w6 v7 v8 (k + 1) S' I' u' h1 h2 h3 h4 ?_ (by omega) (by omega)
      rw [nQ_t z]
      exact g5
    refine d18_6 S h1 h2 h3 h4 h5 h6 ⟨fun ge => ⟨S, ?_, I, u⟩, fun lt => ⟨fun nf w6 v7 v8 g6 => skip h x5 w6 v7 v8 S I u (by omega) (fun z => nf ⟨(cFarm_u u _).mpr z.1.1, e3.trans z.1.2⟩) (Or.inl h5) g6, fun cf => ?_⟩⟩
    · rw [show (vw h0 1 1).toNat = k by omega]
    · have cf0 := (cFarm_u u (k : Nat)).mp cf.1
      have l0 : vw h0 3 (k : Nat) = l := e3.symm.trans cf.2
      refine ⟨prT_u hp I u cf0 (Or.inl rfl), fun y11 h11 K => ?_⟩
      obtain ⟨S11, ⟨I11, u11⟩, ⟨ev11, -⟩, -⟩ := K
      have u2 := uf_t u u11
      refine ⟨prT_u hp I11 u2 cf0 (Or.inr rfl), fun y14 h14 K => ?_⟩
      obtain ⟨S14, ⟨I14, u14⟩, ⟨ev14, -⟩, -⟩ := K
      have u3 := uf_t u2 u14
      have e11' : vw h11 1 0 = vw h0 1 0 := u2 1 0 (by decide) (Or.inl (by decide)) (Or.inl (by decide))
      rw [e10, payF_u u] at ev11
      rw [e11', payF_u u2] at ev14
      refine ⟨fun g0 => ⟨fun le w5 w6 v7 v8 g5 g6 => skip h14 w5 w6 v7 v8 S14 I14 u3 (by omega) ?_ (Or.inr g5) g6, fun gt w5 w6 v7 v8 g5 g6 => take h14 w5 w6 v7 v8 S14 I14 u3 (by omega) ?_ g5 g6⟩, fun gn => ⟨fun le w5 w6 v7 v8 g5 g6 => skip h14 w5 w6 v7 v8 S14 I14 u3 (by omega) ?_ (Or.inr g5) g6, fun gt w5 w6 v7 v8 g5 g6 => take h14 w5 w6 v7 v8 S14 I14 u3 (by omega) ?_ g5 g6⟩⟩
      · rintro ⟨-, z | z⟩
        · rw [if_pos g0] at z
          exact absurd z.1 (by decide)
        · rw [← ev11, ← ev14] at z
          omega
      · refine ⟨⟨cf0, l0⟩, Or.inr ⟨by rw [if_pos g0]; decide, ?_⟩⟩
        rw [← ev11, ← ev14]
        exact gt
      · rintro ⟨-, z | z⟩
        · rw [← ev11, ← ev14] at z
          omega
        · rw [if_neg gn] at z
          exact absurd rfl z.1
      · refine ⟨⟨cf0, l0⟩, Or.inl ⟨if_neg gn, ?_⟩⟩
        rw [← ev11, ← ev14]
        exact gt
theorem c_18 {n : Nat} {X : aX} {h : aH} {x1 x2 x3 x4 : Int32} {a1 a2 a3 a4 : Int} (S : wS h) (z1 : x1.toInt = a1) (z2 : x2.toInt = a2) (z3 : x3.toInt = a3) (z4 : x4.toInt = a4) (hp : pr18 h a1 a3) : Pt n X zM18 0 [some (.ref 41), some (.int x1), some (.int x2), some (.int x3), some (.int x4), none, none, none, none] [] h (qI (fun r h' => R18 h a1 a2 a3 a4 r h')) :=
  pt_d (d18_0 S z1 z2 z3 z4 (fun w5 w6 u7 u8 g5 g6 => l_18 hp n h x1 x2 x3 x4 w5 w6 u7 u8 0 S hp.1.1 (uf_r _) z1 z2 z3 z4 g5 g6 hp.1.2.1.1.1.2.1.2.2.2.2.2.1))
end

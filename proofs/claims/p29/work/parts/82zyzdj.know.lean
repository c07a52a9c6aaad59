-- ===== what is known of a farm =====
theorem fF_e {V : vS} (A : AP V) (t y f : Int) : fSm V t y f (vF V t) = kS V t y f - kM V t y f := by
  have K := A.2.2.1
  have C := A.1.1
  have gb : ∀ c, 0 ≤ vG V t c ∧ vG V t c ≤ 576 := fun c => nQ_b _ 576
  have mb : ∀ c, 0 ≤ mmg V c t (V 72 32).toNat ∧ mmg V c t (V 72 32).toNat ≤ 576 := fun c => by
    rw [← K.1, ← msg_e C K]
    exact msg_b A.2.2.2.1.1 c _ t _
  unfold kS kM fSm
  rw [← sgm_sub]
  refine sgm_c _ (fun c _ _ => ?_)
  by_cases z : LkM V t y c ∧ V 87 c = f
  · rw [pI_t z, pI_t z, pI_t z]
    have := gb c
    have := mb c
    unfold vF vL
    rw [w32_id (by omega) (by omega)]
    split <;> omega
  · rw [pI_f z, pI_f z, pI_f z]
    rfl
theorem m104 {V W : vS} {t y f : Int} (A : AP V) (R : rkd V W t) (hy : 0 ≤ y ∧ y ≤ 9) : w32 (mSm W f y 104 (W 72 19).toNat) = kS V t y f ∧ w32 (mSm W f y 105 (W 72 19).toNat) = kS V t y f - kM V t y f := by
  have b := k_b A t y f
  rw [mSm_e (f := f) R hy (r := 104) (g := vG V t) (fun c a b m y0 y1 => (R.2.2 c a b m y0 y1).1), mSm_e (f := f) R hy (r := 105) (g := vF V t) (fun c a b m y0 y1 => (R.2.2 c a b m y0 y1).2), fF_e A]
  exact ⟨w32_id (by show (-2147483648 : Int) ≤ kS V t y f; omega) (by show kS V t y f ≤ (2147483647 : Int); omega), w32_id (by omega) (by omega)⟩
theorem lkW_e {V W : vS} {t y f : Int} (R : rkd V W t) {c : Int} (c0 : 0 ≤ c) (cN : c < V 72 19) : lkW W f y c ↔ LkM V t y c ∧ V 87 c = f := by
  unfold lkW LkM
  rw [R.1.2.1, R.1.2.2, R.2.1 c c0 cN]
  by_cases z : mcn V c t
  · rw [bI_t z]
    exact ⟨fun w => ⟨⟨z, w.2.2⟩, w.2.1⟩, fun w => ⟨by decide, w.2, w.1.2⟩⟩
  · rw [bI_f z]
    exact ⟨fun w => absurd rfl w.1, fun w => absurd w.1.1 z⟩
theorem g104 {V W : vS} {t y f : Int} (R : rkd V W t) (hy : 0 ≤ y ∧ y ≤ 9) {P Q : Int → Prop} (e : ∀ c, P c ↔ Q c) : sgm (fun c => pI (lkW W f y c ∧ P c) (W 104 c)) (W 72 19).toNat = sgm (fun c => pI ((LkM V t y c ∧ V 87 c = f) ∧ Q c) (vG V t c)) (V 72 19).toNat := by
  rw [R.1.1]
  refine sgm_c _ (fun c c0 cN => ?_)
  refine pI_c (by rw [lkW_e R c0 (by omega), e c]) (fun z => ?_)
  have l := (lkW_e R c0 (by omega)).mp z.1
  exact (R.2.2 c c0 (by omega) l.1.1 (by rw [l.1.2]; exact hy.1) (by rw [l.1.2]; omega)).1
-- the reference's names
theorem nms_m {V G W : vS} {f y t : Int} (A : AP V) (R : rkd V G t) (hy : 0 ≤ y ∧ y ≤ 9) (ex : ∀ (c : Nat) j, 72 < c → c < 103 → G c j = V c j) (e2 : G 72 2 = V 72 2) (e14 : G 72 14 = V 72 14) (e111 : ∀ j, G 111 j = V 111 j) (F : FF G f y t W) : NMS V f y t (fun j => W 124 j) := by
  have B := A.1.2.1
  obtain ⟨-, ⟨⟨a0, a1, a2, a3⟩, a4, a5, a6⟩, ⟨a7, a8, a9⟩, a10, a11, a12⟩ := F
  obtain ⟨s4, s5⟩ := m104 (f := f) A R hy
  have b := k_b A t y f
  have cc : ∀ j, w32 (mcS G f y j (G 72 19).toNat) = kC V t y f j := fun j => by
    have e : mcS G f y j (G 72 19).toNat = kC V t y f j := g104 R hy (P := fun c => G 89 c = j) (Q := fun c => V 89 c = j) (fun c => by rw [ex 89 c (by decide) (by decide)])
    have := b.2.2.1 j
    rw [e]
    exact w32_id (by omega) (by omega)
  have gg : w32 (mmS G f y (G 72 19).toNat) = kG V t y f := by
    have e : mmS G f y (G 72 19).toNat = kG V t y f := g104 R hy (P := fun c => G 73 (G 88 c) = 5) (Q := fun c => V 73 (V 88 c) = 5) (fun c => by rw [ex 88 c (by decide) (by decide), ex 73 _ (by decide) (by decide)])
    rw [e]
    exact w32_id (by omega) (by omega)
  have ll : lasN (lkW G f y) (G 72 19).toNat = kL V t y f := by
    rw [R.1.1]
    exact lasN_c _ (fun c c0 cN => lkW_e R c0 (by omega))
  have mx := mxN_b (g := fun j => kC V t y f j) (B := 172800) (by decide) 8 (fun j => b.2.2.1 j)
  have tp : topM G f y = mxN (fun j => kC V t y f j) 8 := mxN_c 8 (fun j _ _ => cc j)
  unfold sM at a2 a4 a6
  rw [s4] at a2 a4 a6
  rw [s5] at a3
  rw [gg, w32_id (z := 100 * kG V t y f) (by omega) (by omega)] at a4
  rw [tp, w32_id (z := 100 * mxN (fun j => kC V t y f j) 8) (by omega) (by omega)] at a6
  refine ⟨⟨a0, by show W 124 1 = V 2 f; rw [a1, ex 73 f (by decide) (by decide), B.2.1], a2, a3⟩, ⟨a4, ?_, a6⟩, ⟨?_, ?_, ?_⟩, a10, ?_, ?_⟩
  · show W 124 5 = _
    rw [a5]
    unfold crpM
    exact nQ_c 8 (fun j _ _ => by rw [cc j])
  · show W 124 7 = _
    rw [a7]
    unfold lateM
    rw [ll, lt0_k ex]
  · show W 124 8 = _
    rw [a8]
    unfold mErr kEr
    rw [s4, s5, w32_id (z := kS V t y f - (kS V t y f - kM V t y f)) (by omega) (by omega), show kS V t y f - (kS V t y f - kM V t y f) = kM V t y f by omega, w32_id (z := 100 * kM V t y f) (by omega) (by omega)]
  · show W 124 9 = _
    rw [a9]
    unfold perM
    rw [e2]
    exact nQ_c _ (fun b _ _ => by rw [ex 73 b (by decide) (by decide), mHold_f ex e14])
  · show W 124 11 = _
    rw [a11]
    unfold mPrv
    rw [e111]
  · show W 124 12 = _
    rw [a12]
    refine nQ_c _ (fun y' h0 h1 => ?_)
    obtain ⟨u4, u5⟩ := m104 (f := f) (y := y') A R ⟨h0, by omega⟩
    unfold earM
    rw [u4, u5]
    omega


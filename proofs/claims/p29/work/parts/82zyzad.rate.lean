-- ===== the rate of errors =====
-- what a reckoning holds, read by farm
def rkd (V W : vS) (k : Int) : Prop := (W 72 19 = V 72 19 ∧ (∀ c, W 87 c = V 87 c) ∧ ∀ c, W 90 c = V 90 c) ∧ (∀ c, 0 ≤ c → c < V 72 19 → W 103 c = bI (mcn V c k)) ∧ ∀ c, 0 ≤ c → c < V 72 19 → mcn V c k → 0 ≤ iDiv (V 90 c) 365 → iDiv (V 90 c) 365 < 10 → W 104 c = vG V k c ∧ W 105 c = vF V k c
theorem rkd_R {V W : vS} {k : Int} (R : R239 V k W) : rkd V W k := ⟨⟨agR_y R.1.1 (by decide) (by decide), fun c => agR_x R.1.1 87 c (by decide) (by decide), fun c => agR_x R.1.1 90 c (by decide) (by decide)⟩, R.1.2.2, fun c a b m y0 y1 => ⟨(R.2 c a b m y0 y1).1, (R.2 c a b m y0 y1).2.2⟩⟩
theorem mSm_e {V W : vS} {k y f : Int} (R : rkd V W k) (hy : 0 ≤ y ∧ y ≤ 9) {r : Nat} {g : Int → Int} (hr : ∀ c, 0 ≤ c → c < V 72 19 → mcn V c k → 0 ≤ iDiv (V 90 c) 365 → iDiv (V 90 c) 365 < 10 → W r c = g c) : mSm W f y r (W 72 19).toNat = fSm V k y f g := by
  obtain ⟨⟨e19, e87, e90⟩, a, -⟩ := R
  unfold mSm fSm
  rw [e19]
  refine sgm_c _ (fun c c0 cN => ?_)
  rw [e87, e90, a c c0 (by omega)]
  unfold LkM
  refine pI_c ⟨fun z => ⟨⟨?_, z.2.2⟩, z.2.1⟩, fun z => ⟨by rw [bI_t z.1.1]; decide, z.2, z.1.2⟩⟩ (fun z => ?_)
  · by_cases m : mcn V c k
    · exact m
    · exact absurd (bI_f m) z.1
  · have m : mcn V c k := by
      by_cases m : mcn V c k
      · exact m
      · exact absurd (bI_f m) z.1
    exact hr c c0 (by omega) m (by rw [z.2.2]; exact hy.1) (by rw [z.2.2]; omega)
theorem err_e {V W : vS} {q : Nat} {y k f : Int} (A : AP V) (S : scK V q y k) (R : rkd V W k) (hy : 0 ≤ y ∧ y ≤ 9) (hf : 0 ≤ f ∧ f < 150) : cErr V q f = mErr W f y := by
  obtain ⟨t5, t6, b5, b6⟩ := tot_e A S hf
  have s4 := mSm_e (f := f) R hy (r := 104) (g := vG V k) (fun c a b m y0 y1 => (R.2.2 c a b m y0 y1).1)
  have s5 := mSm_e (f := f) R hy (r := 105) (g := vF V k) (fun c a b m y0 y1 => (R.2.2 c a b m y0 y1).2)
  have K := A.2.2.1
  have C := A.1.1
  have gb : ∀ c, 0 ≤ vG V k c ∧ vG V k c ≤ 576 := fun c => nQ_b _ 576
  have mb : ∀ c, 0 ≤ mmg V c k (V 72 32).toNat ∧ mmg V c k (V 72 32).toNat ≤ 576 := fun c => by
    rw [← K.1, ← msg_e C K]
    exact msg_b A.2.2.2.1.1 c _ k _
  have fd : fSm V k y f (vF V k) = fSm V k y f (vG V k) - fSm V k y f (vL V k) := by
    unfold fSm
    rw [← sgm_sub]
    refine sgm_c _ (fun c _ _ => ?_)
    by_cases z : LkM V k y c ∧ V 87 c = f
    · rw [pI_t z, pI_t z, pI_t z]
      have := gb c
      have := mb c
      unfold vF vL
      rw [w32_id (by omega) (by omega)]
      split <;> omega
    · rw [pI_f z, pI_f z, pI_f z]
      rfl
  unfold cErr mErr
  rw [s4, s5, fd, ← t5, ← t6, w32_id (z := V (q + 5) f) (by omega) (by omega), w32_id (z := V (q + 5) f - V (q + 6) f) (by omega) (by omega), w32_id (z := V (q + 5) f - (V (q + 5) f - V (q + 6) f)) (by omega) (by omega), show V (q + 5) f - (V (q + 5) f - V (q + 6) f) = V (q + 6) f by omega]


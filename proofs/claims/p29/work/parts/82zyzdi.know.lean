-- ===== what is known of a farm =====
-- the names, as both sides have them
noncomputable def kEr (V : vS) (t y f : Int) : Int := if kS V t y f - kM V t y f = 0 then (if kS V t y f = 0 then 0 else 999) else min 999 (iDiv (100 * kM V t y f) (kS V t y f - kM V t y f))
def NMS (V : vS) (f y t : Int) (A : Int → Int) : Prop := (A 0 = y ∧ A 1 = V 2 f ∧ A 2 = kS V t y f ∧ A 3 = kS V t y f - kM V t y f) ∧ (A 4 = (if kS V t y f = 0 then 0 else iDiv (100 * kG V t y f) (kS V t y f)) ∧ A 5 = nQ (fun j => 0 < kC V t y f j) 8 ∧ A 6 = (if kS V t y f = 0 then 0 else iDiv (100 * mxN (fun j => kC V t y f j) 8) (kS V t y f))) ∧ (A 7 = (if kL V t y f < 0 then 0 else lt0 V (kL V t y f)) ∧ A 8 = kEr V t y f ∧ A 9 = nQ (fun b => V 73 b = 6 ∧ mHold V b (ldM y) t = f) (V 72 2).toNat) ∧ A 10 = 0 ∧ A 11 = bI (mPrv V f y t) ∧ A 12 = nQ (fun y' => 0 < kM V t y' f) y.toNat
theorem NMS_e {V : vS} {f y t : Int} {A B : Int → Int} (a : NMS V f y t A) (b : NMS V f y t B) : ∀ j, 0 ≤ j → j ≤ 12 → A j = B j := fun j h0 h1 => by
  obtain ⟨⟨a0, a1, a2, a3⟩, ⟨a4, a5, a6⟩, ⟨a7, a8, a9⟩, a10, a11, a12⟩ := a
  obtain ⟨⟨b0, b1, b2, b3⟩, ⟨b4, b5, b6⟩, ⟨b7, b8, b9⟩, b10, b11, b12⟩ := b
  obtain z | z | z | z | z | z | z | z | z | z | z | z | z : j = 0 ∨ j = 1 ∨ j = 2 ∨ j = 3 ∨ j = 4 ∨ j = 5 ∨ j = 6 ∨ j = 7 ∨ j = 8 ∨ j = 9 ∨ j = 10 ∨ j = 11 ∨ j = 12 := by omega
  all_goals (rw [z])
  · exact a0.trans b0.symm
  · exact a1.trans b1.symm
  · exact a2.trans b2.symm
  · exact a3.trans b3.symm
  · exact a4.trans b4.symm
  · exact a5.trans b5.symm
  · exact a6.trans b6.symm
  · exact a7.trans b7.symm
  · exact a8.trans b8.symm
  · exact a9.trans b9.symm
  · exact a10.trans b10.symm
  · exact a11.trans b11.symm
  · exact a12.trans b12.symm
theorem lt0_k {V W : vS} (e : ∀ (c : Nat) j, 72 < c → c < 103 → W c j = V c j) (c : Int) : lt0 W c = lt0 V c := by
  unfold lt0
  rw [e 90 c (by decide) (by decide), e 87 c (by decide) (by decide), e 74 _ (by decide) (by decide), e 91 _ (by decide) (by decide)]
theorem NMS_k {V W : vS} (e : ∀ (c : Nat) j, c < 33 ∨ 72 ≤ c ∧ c ≤ 111 → W c j = V c j) {f y t : Int} {A : Int → Int} (n : NMS V f y t A) : NMS W f y t A := by
  have M : agM V W := agM_of (fun c j u v => e c j (Or.inr ⟨u, v⟩))
  have hd : ∀ b d k, mHold W b d k = mHold V b d k := mHold_f (fun c j u v => e c j (by omega)) (e 72 14 (by decide))
  unfold NMS kEr mPrv at n ⊢
  simp only [kS_k M, kM_k M, kC_k M, kG_k M, kL_k M, hd, lt0_k (V := V) (W := W) (fun c j u v => e c j (by omega)), e 2 _ (show 2 < 33 ∨ _ by decide), e 73 _ (show 73 < 33 ∨ 72 ≤ 73 ∧ 73 ≤ 111 by decide), e 72 _ (show 72 < 33 ∨ 72 ≤ 72 ∧ 72 ≤ 111 by decide), e 111 _ (show 111 < 33 ∨ 72 ≤ 111 ∧ 111 ≤ 111 by decide)]
  exact n
theorem k_b {V : vS} (A : AP V) (t y f : Int) : (0 ≤ kS V t y f ∧ kS V t y f ≤ 172800) ∧ (0 ≤ kM V t y f ∧ kM V t y f ≤ kS V t y f) ∧ (∀ j, 0 ≤ kC V t y f j ∧ kC V t y f j ≤ 172800) ∧ 0 ≤ kG V t y f ∧ kG V t y f ≤ 172800 := by
  have K := A.2.2.1
  have C := A.1.1
  have hN : 0 ≤ V 72 19 ∧ V 72 19 ≤ 300 := by rw [← C.1]; exact C.2.2.2.2.2
  have gb : ∀ c, 0 ≤ vG V t c ∧ vG V t c ≤ 576 := fun c => nQ_b _ 576
  have mb : ∀ c, 0 ≤ mmg V c t (V 72 32).toNat := fun c => by
    rw [← K.1, ← msg_e C K]
    exact (msg_b A.2.2.2.1.1 c _ t _).1
  have lb : ∀ c, 0 ≤ vL V t c ∧ vL V t c ≤ 576 := fun c => by
    have := gb c
    have := mb c
    unfold vL
    omega
  have b5 := sgm_b (B := 576) (V 72 19).toNat (fun c (_ : 0 ≤ c) _ => pI_b (p := LkM V t y c ∧ V 87 c = f) (gb c))
  have b6 := sgm_b (B := 576) (V 72 19).toNat (fun c (_ : 0 ≤ c) _ => pI_b (p := LkM V t y c ∧ V 87 c = f) (lb c))
  have b7 := fun j : Int => sgm_b (B := 576) (V 72 19).toNat (fun c (_ : 0 ≤ c) _ => pI_b (p := (LkM V t y c ∧ V 87 c = f) ∧ V 89 c = j) (gb c))
  have b8 := sgm_b (B := 576) (V 72 19).toNat (fun c (_ : 0 ≤ c) _ => pI_b (p := (LkM V t y c ∧ V 87 c = f) ∧ V 73 (V 88 c) = 5) (gb c))
  have bd := sgm_b (B := 576) (f := fun c => pI (LkM V t y c ∧ V 87 c = f) (vG V t c) - pI (LkM V t y c ∧ V 87 c = f) (vL V t c)) (V 72 19).toNat (fun c _ _ => by
    have := gb c
    have := mb c
    by_cases z : LkM V t y c ∧ V 87 c = f
    · rw [pI_t z, pI_t z]
      unfold vL
      omega
    · rw [pI_f z, pI_f z]
      omega)
  rw [sgm_sub] at bd
  unfold kS kM kC kG fSm
  refine ⟨⟨b5.1, by omega⟩, ⟨b6.1, by omega⟩, fun j => ⟨(b7 j).1, ?_⟩, b8.1, by omega⟩
  have := (b7 j).2
  omega
theorem crS_e {V : vS} {q : Nat} {y t : Int} (A : AP V) (S : scK V q y t) (f j : Int) : crS V q f j (V q 5).toNat = kC V t y f j := by
  have E := A.1
  have C := A.1.1
  have L := S.2.1
  unfold crS kC
  have e1 : sgm (fun i => pI (V 17 (V (q + 1) i) = f ∧ V 19 (V (q + 1) i) = j) (V (q + 2) i)) (V q 5).toNat = sgm (fun i => (fun c => pI (V 17 c = f ∧ V 19 c = j) (vG V t c)) (V (q + 1) i)) (V q 5).toNat := sgm_c _ (fun i a b => by
    show pI (V 17 (V (q + 1) i) = f ∧ V 19 (V (q + 1) i) = j) (V (q + 2) i) = pI (V 17 (V (q + 1) i) = f ∧ V 19 (V (q + 1) i) = j) (vG V t (V (q + 1) i))
    rw [(size_v A S a (by omega)).1])
  refine e1.trans ((all_sum E L (fun c => pI (V 17 c = f ∧ V 19 c = j) (vG V t c))).trans ?_)
  refine sgm_c _ (fun c _ _ => ?_)
  show pI (LkM V t y c) (pI (V 17 c = f ∧ V 19 c = j) (vG V t c)) = _
  rw [pI_p, C.2.1, C.2.2.2.1]
  exact pI_c and_assoc.symm (fun _ => rfl)
theorem mdS_e {V : vS} {q : Nat} {y t : Int} (A : AP V) (S : scK V q y t) (f : Int) : mdS V q f (V q 5).toNat = kG V t y f := by
  have E := A.1
  have C := A.1.1
  have B := A.1.2.1
  have L := S.2.1
  unfold mdS kG
  have e1 : sgm (fun i => pI (V 17 (V (q + 1) i) = f ∧ V 2 (V 18 (V (q + 1) i)) = 5) (V (q + 2) i)) (V q 5).toNat = sgm (fun i => (fun c => pI (V 17 c = f ∧ V 2 (V 18 c) = 5) (vG V t c)) (V (q + 1) i)) (V q 5).toNat := sgm_c _ (fun i a b => by
    show pI (V 17 (V (q + 1) i) = f ∧ V 2 (V 18 (V (q + 1) i)) = 5) (V (q + 2) i) = pI (V 17 (V (q + 1) i) = f ∧ V 2 (V 18 (V (q + 1) i)) = 5) (vG V t (V (q + 1) i))
    rw [(size_v A S a (by omega)).1])
  refine e1.trans ((all_sum E L (fun c => pI (V 17 c = f ∧ V 2 (V 18 c) = 5) (vG V t c))).trans ?_)
  refine sgm_c _ (fun c _ _ => ?_)
  show pI (LkM V t y c) (pI (V 17 c = f ∧ V 2 (V 18 c) = 5) (vG V t c)) = _
  rw [pI_p, C.2.1, C.2.2.1, B.2.1]
  exact pI_c and_assoc.symm (fun _ => rfl)
theorem mxN_b {g : Int → Int} {B : Int} (hB : 0 ≤ B) : ∀ n : Nat, (∀ j, 0 ≤ g j ∧ g j ≤ B) → 0 ≤ mxN g n ∧ mxN g n ≤ B
  | 0, _ => ⟨Int.le_refl _, hB⟩
  | n + 1, h => by
    have ih := mxN_b hB n h
    have e : mxN g (n + 1) = max (mxN g n) (g (n : Nat)) := rfl
    have := h (n : Nat)
    rw [e]
    omega


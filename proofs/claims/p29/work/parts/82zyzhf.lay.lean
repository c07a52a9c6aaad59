-- ===== the reference lays a text out =====
theorem ek_256 {n : Nat} {X : aX} (C : mt256 (n + 1) X) (K6 : mv256 n X) (K1 : mv261 n X) : mv256 (n + 1) X := by
  intro h S hp
  refine pt_q (pt_and (C S hp.1) (show Pt (n + 1) X zM256 0 [some (.ref 72), none, none, none] [] h (qN (fun h' => kRes 0 (vw h) (vw h'))) from ?_)) ?_
  · obtain ⟨hp, KV⟩ := hp
    have h0 := hp.2.2.1
    have h160 := hp.2.2.2
    have hm := mL_T (V := vw h) h0.1
    have wo : ∀ {z : Int}, 0 ≤ z → z ≤ 160 → w32 (z + 1) = z + 1 := fun _ _ => w32_id (by omega) (by omega)
    -- at depth eight
    have sh : ∀ (y : Int) (g : aH), (wS g ∧ R254 (vw h) y (vw g)) → y = 0 → kRes 0 (vw h) (vw g) := by
      intro y g k e
      rcases k.2 with ⟨z, -⟩ | ⟨-, z, w⟩
      · omega
      · rcases w with ⟨w, -⟩ | ⟨-, w⟩
        · have := hp.1
          omega
        · rw [w]
          refine ⟨kFs_i (s := 0) (up_fr (by omega)) (by rw [up_j (by decide)]; omega), fun u => ?_⟩
          rw [up_s] at u
          omega
    -- it opens
    have op : ∀ (y : Int) (g : aH), (mT (vw h) (vw h 72 64) = 33 ∨ mT (vw h) (vw h 72 64) = 45 ∨ mT (vw h) (vw h 72 64) = 40) → R254 (vw h) y (vw g) → y ≠ 0 → vw h 72 66 ≠ 8 ∧ (mpre (vw g) ∧ kpre (vw g)) ∧ vw g 72 64 = vw h 72 64 + 1 ∧ vw g 72 66 = vw h 72 66 + 1 ∧ mT (vw g) = mT (vw h) ∧ vw g 72 54 = vw h 72 54 ∧ kFs (-1) (vw h) (vw g) ∧ vw g 72 68 = vw h 72 68 := by
      intro y g c k e
      have lt : vw h 72 64 < vw h 72 54 := mT_lt (by omega)
      rcases k with ⟨-, z, w⟩ | ⟨z, -⟩
      · have h66 := hp.2.1
        rw [wo h66.1 (by omega), wo h0.1 (by omega)] at w
        have F : mfr (vw h) (vw g) := by rw [w]; exact mfr_u (mfr_u (mfr_r _) (Or.inr (Or.inr (Or.inl rfl)))) (Or.inl rfl)
        have a1 : vw g 72 64 = vw h 72 64 + 1 := by rw [w, up_s]
        have a2 : vw g 72 66 = vw h 72 66 + 1 := by rw [w, up_j (by decide), up_s]
        have a3 : vw g 72 65 = -1 := by rw [w, up_j (by decide), up_j (by decide)]; exact hp.1
        have a4 := mfr_54 F
        have F4 : kFs (-1) (vw h) (vw g) := kFs_i (fun c j z => by rw [w, up_fr (by omega) c j z, up_fr (by omega) c j z]) (by omega)
        exact ⟨z, ⟨⟨a3, by rw [a2]; omega, by rw [a1, a4]; omega, by rw [a4]; exact h160⟩, kF_p (by decide) KV F4⟩, a1, a2, mfr_T F, a4, F4, by rw [w, up_j (by decide), up_j (by decide)]⟩
      · exact absurd z e
    -- behind ! or -
    have un : ∀ (y w : Int) (g h8 h12 h17 : aH), ((mT (vw h) (vw h 72 64) = 33 ∧ w = 3) ∨ (mT (vw h) (vw h 72 64) = 45 ∧ w = 4)) → R254 (vw h) y (vw g) → y ≠ 0 → mRes 0 (vw g) (vw h8) → kRes 0 (vw g) (vw h8) → vw h12 = up (vw h8) 72 66 (w32 (vw h8 72 66 - 1)) → (wS h17 ∧ RLay (vw h12) w 0 (vw h17)) → kRes 0 (vw h) (vw h17) := by
      intro y w g h8 h12 h17 c k e c1 k1 e12 l
      obtain ⟨o1, o2, o3, o4, o5, o6, o7, o8⟩ := op y g (by omega) k e
      have fr : ∀ c j, (c = 119 ∨ c = 120 ∨ c = 121 ∨ c = 122 ∨ c = 123 ∨ (c = 72 ∧ (j = 67 ∨ j = 68))) → vw h12 c j = vw h8 c j := fun c j z => by rw [e12]; exact up_fr (by omega) c j z
      have e64 : vw h12 72 64 = vw h8 72 64 := by rw [e12, up_j (by decide)]
      have e65 : vw h12 72 65 = vw h8 72 65 := by rw [e12, up_j (by decide)]
      have k12 : vw h12 72 65 < 0 → kOk 0 (vw h 72 66 + 1) (vw g 72 64) (vw g) (vw h12) := fun z => by
        obtain ⟨q, L, d, a1, a2, a3⟩ := k1.2 (by omega)
        rw [o4] at d
        exact ⟨q, L, d, e64.trans a1, (fr 72 68 (by omega)).trans a2, cAt_k L _ (fun j _ _ => ⟨fr 122 j (by omega), fr 123 j (by omega)⟩) a3⟩
      obtain ⟨F, G⟩ := k_lay (o := vw h 72 66 + 1) KV o7 o3 o5 o8 (by rw [e64]; exact mRes_q c1 (by omega)) (kFs_j fr e64 k1.1) k12 l.2
      refine ⟨F, fun n => ?_⟩
      obtain ⟨q, L, d, a1, a2, a3⟩ := G n
      refine ⟨q, L ++ [(w, 0)], ko_un c o1 d, a1, ?_, a3⟩
      rw [a2, List.length_append]
      show _ = vw h 72 68 + ((L.length + 1 : Nat) : Int)
      omega
    refine y256_0 S K6 K1 (fun y2 h2 k2 => ?_)
    obtain ⟨S2, rfl, k2, v2⟩ := k2
    refine ⟨fun e2 => ?_, fun e2 y60 h60 k60 h61 k61 h65 S65 e65 => ?_⟩
    · have nn : nmB (mT (vw h2) (vw h2 72 64)) = false := by
        rw [← hm]
        rcases k2 with ⟨-, z⟩ | ⟨z, -⟩
        · omega
        · exact z
      rw [hm]
      refine ⟨fun e3 y6 h6 k6 => ⟨fun e6 => ⟨(op y6 h6 (Or.inl e3) k6.2 e6).2.1, fun h8 k8 => ⟨fun z => absurd e3 z, fun _ h12 S12 e12 h20 k20 => un y6 3 h6 h8 h12 h20 (Or.inl ⟨e3, rfl⟩) k6.2 e6 k8.2.1 k8.2.2 e12 k20⟩⟩, fun e6 => sh y6 h6 k6 e6⟩, fun n3 => ⟨fun n4 => ⟨fun n5 w1 w2 w3 g1 g2 g3 => ?_, fun e5 y27 h27 k27 => ?_⟩, fun e4 y44 h44 k44 => ⟨fun e6 => ⟨(op y44 h44 (Or.inr (Or.inl e4)) k44.2 e6).2.1, fun h46 k46 => ⟨fun _ h50 S50 e50 h55 k55 => un y44 4 h44 h46 h50 h55 (Or.inr ⟨e4, rfl⟩) k44.2 e6 k46.2.1 k46.2.2 e50 k55, fun z => absurd z n3⟩⟩, fun e6 => sh y44 h44 k44 e6⟩⟩⟩
      · exact l_256v (V := vw h2) nn n3 n4 n5 hp KV n h2 w1 w2 w3 6 0 S2 (Nat.le_refl _) (by omega) g3 (by rw [show vw h2 72 64 + (6 - ((6 : Nat) : Int)) = vw h2 72 64 by omega, up_id]) (by rw [show vw h2 72 64 + (6 - ((6 : Nat) : Int)) = vw h2 72 64 by omega]) (by rw [show vw h2 72 64 + (6 - ((6 : Nat) : Int)) = vw h2 72 64 by omega]) (by omega)
      · refine ⟨fun e6 => ?_, fun e6 => sh y27 h27 k27 e6⟩
        obtain ⟨o1, o2, o3, o4, o5, o6, o7, o8⟩ := op y27 h27 (Or.inr (Or.inr e5)) k27.2 e6
        refine ⟨o2, fun h29 k29 => ?_⟩
        obtain ⟨S29, c29, r29⟩ := k29
        have lp := mRes_p o2.1 c29
        have h66 := hp.2.1
        obtain ⟨F1, q, f, p, b1, b2, b3, b4⟩ := c29
        have T9 : mT (vw h29) = mT (vw h2) := (mfr_T F1).trans o5
        have m9 : mL (vw h29) = mT (vw h2) q := by rw [mL_T lp.2.2.1.1, T9, b1]
        have F := kFs_t o7 r29.1
        refine ⟨fun lt => ?_, fun ge => ⟨⟨F.1, F.2.1, F.2.2.1, by have := F.2.2.2; omega⟩, fun z => by omega⟩⟩
        rw [m9]
        refine ⟨fun e41 h42 S42 e42 => ?_, fun n41 h43 k43 => ?_⟩
        · have qlt : q < vw h2 72 54 := mT_lt (by omega)
          have q0 := lp.2.2.1.1
          rw [b1] at q0
          rw [b1, wo q0 (by omega)] at e42
          have fr : ∀ c j, (c = 119 ∨ c = 120 ∨ c = 121 ∨ c = 122 ∨ c = 123 ∨ (c = 72 ∧ (j = 67 ∨ j = 68))) → vw h42 c j = vw h29 c j := fun c j z => by rw [e42, up_fr (by omega) c j z, up_fr (by omega) c j z]
          have e64 : vw h42 72 64 = q + 1 := by rw [e42, up_s]
          have F2 := kFs_t F (kFs_i (s := -1) fr (by omega))
          refine ⟨⟨F2.1, F2.2.1, F2.2.2.1, by have := F2.2.2.2; omega⟩, fun _ => ?_⟩
          obtain ⟨q', L, d, a1, a2, a3⟩ := r29.2 lt
          obtain rfl : q' = q := by omega
          rw [o5, o4, o3] at d
          rw [o8] at a2
          rw [o8, kFs_67 o7] at a3
          exact ⟨q' + 1, L, ko_br e5 o1 d e41, e64, (fr 72 68 (by omega)).trans a2, cAt_k L _ (fun j _ _ => ⟨fr 122 j (by omega), fr 123 j (by omega)⟩) a3⟩
        · rcases k43.2 with ⟨w, -⟩ | ⟨-, w⟩
          · omega
          · have q0 := lp.2.2.1.1
            refine ⟨?_, fun u => by rw [w, up_s] at u; omega⟩
            have F2 := kFs_t F (kFs_i (s := 0) (V := vw h29) (V' := vw h43) (fun c j z => by rw [w]; exact up_fr (by omega) c j z) (by rw [w, up_j (by decide)]; omega))
            exact ⟨F2.1, F2.2.1, F2.2.2.1, by have := F2.2.2.2; omega⟩
    · obtain ⟨-, rfl, k60, v60⟩ := k60
      have nn : nmB (mT (vw h60) (vw h60 72 64)) = true := by
        rw [← hm]
        rcases k2 with ⟨z, -⟩ | ⟨-, z⟩
        · exact z
        · omega
      have lt : vw h60 72 64 < vw h60 72 54 := mT_lt (fun w => by rw [w] at nn; cases nn)
      obtain ⟨lF, l68, lc, l64, l65⟩ := lay_F KV (by omega) k61.2
      rw [l64, wo h0.1 (by omega)] at e65
      have fr : ∀ c j, (c = 119 ∨ c = 120 ∨ c = 121 ∨ c = 122 ∨ c = 123 ∨ (c = 72 ∧ (j = 67 ∨ j = 68))) → vw h65 c j = vw h61 c j := fun c j z => by rw [e65]; exact up_fr (by omega) c j z
      have e64 : vw h65 72 64 = vw h60 72 64 + 1 := by rw [e65, up_s]
      refine ⟨kFs_s (by omega) (kFs_t lF (kFs_i (s := -1) fr (by omega))), fun _ => ⟨_, _, ko_nm nn, e64, ?_, ?_⟩⟩
      · rw [fr 72 68 (by omega), l68]
        rfl
      · rw [← hm, ← v60]
        exact ⟨⟨(fr 122 _ (by omega)).trans lc.1, (fr 123 _ (by omega)).trans lc.2⟩, trivial⟩
  · rintro v h' ⟨⟨ev, p1, p2⟩, ⟨_, p3⟩⟩
    exact ⟨ev, p1, p2, p3⟩
theorem mk_gram (X : aX) : ∀ n : Nat, mv256 n X ∧ (mv257 n X ∧ mw257 n X) ∧ (mv258 n X ∧ mw258 n X) ∧ mv259 n X ∧ (mv260 n X ∧ mw260 n X) ∧ mv261 n X ∧ mw261 n X := by
  intro n
  induction n with
  | zero => exact ⟨fun _ _ => pt_z, ⟨fun _ _ => pt_z, fun _ _ _ => pt_z⟩, ⟨fun _ _ => pt_z, fun _ _ _ => pt_z⟩, fun _ _ => pt_z, ⟨fun _ _ => pt_z, fun _ _ _ => pt_z⟩, fun _ _ => pt_z, fun _ _ _ => pt_z⟩
  | succ n ih =>
    obtain ⟨i1, ⟨i2, i3⟩, ⟨i4, i5⟩, i6, ⟨i7, i8⟩, i9, i10⟩ := ih
    exact ⟨ek_256 (m_gram X (n + 1)).1 i1 i9, ⟨ek_257 i1 i3, fk_257 i1 i3⟩, ⟨ek_258 i2 i5, fk_258 i2 i5⟩, ek_259 i4, ⟨ek_260 i6 i8, fk_260 i6 i8⟩, ek_261 i7 i10, fk_261 i7 i10⟩


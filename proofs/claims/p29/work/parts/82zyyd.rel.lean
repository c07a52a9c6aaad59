-- ===== seasons: the relation =====
-- a body more, on both sides
def cAd (V W : vS) : Prop := (0 ≤ V 1 1 ∧ V 1 1 < 150) ∧ W 1 1 = V 1 1 + 1 ∧ (∀ j, j ≠ V 1 1 → W 2 j = V 2 j ∧ W 5 j = V 5 j) ∧ W 5 (V 1 1) = -1 ∧ W 1 5 = V 1 5 ∧ ∀ (c : Nat) j, 16 ≤ c → W c j = V c j
theorem cAd_v {V : vS} {k m t : Int} (h : 0 ≤ V 1 1 ∧ V 1 1 < 150) : cAd V (cAddV V k m t) := by
  refine ⟨h, by rw [cA_n, w32_id (by omega) (by omega)], fun j n => ⟨by rw [cA_2, if_neg n], by rw [cA_5, if_neg n]⟩, by rw [cA_5, if_pos rfl], ?_, fun c j z => cAddV_c (by omega) (by omega) (by omega) (by omega) (by omega) (by omega)⟩
  unfold cAddV
  rw [up_j (by decide), up_j (by decide), up_j (by decide), up_c (by decide), up_c (by decide), up_c (by decide), up_c (by decide), up_c (by decide)]
theorem cAd_w {V U W : vS} (A : cAd V U) (e : ∀ (c : Nat) j, c ≠ 6 → c ≠ 8 → c ≠ 13 → ¬ (c = 1 ∧ j = 4) → W c j = U c j) : cAd V W := by
  obtain ⟨a, b, c, d, f, g⟩ := A
  refine ⟨a, ?_, fun j n => ⟨?_, ?_⟩, ?_, ?_, fun c' j z => ?_⟩
  · rw [e 1 1 (by decide) (by decide) (by decide) (by decide)]; exact b
  · rw [e 2 j (by decide) (by decide) (by decide) (fun z => absurd z.1 (by decide))]; exact (c j n).1
  · rw [e 5 j (by decide) (by decide) (by decide) (fun z => absurd z.1 (by decide))]; exact (c j n).2
  · rw [e 5 _ (by decide) (by decide) (by decide) (fun z => absurd z.1 (by decide))]; exact d
  · rw [e 1 5 (by decide) (by decide) (by decide) (by decide)]; exact f
  · rw [e c' j (by omega) (by omega) (by omega) (fun w => by omega)]; exact g c' j z
theorem cx_1 {V W : vS} {k m t r : Int} (h : RAdd V k m t r W) : W = V ∨ cAd V W := by
  rcases h with ⟨-, -, e⟩ | ⟨a, b, -, e⟩
  · exact Or.inl e
  · rw [e]
    exact Or.inr (cAd_v ⟨a, b⟩)
theorem cx_2 {V W : vS} {k l r : Int} (h : R146 V k l r W) : W = V ∨ cAd V W := by
  rcases h with ⟨-, -, e⟩ | ⟨-, h⟩
  · exact Or.inl e
  · exact cx_1 h
theorem cx_6 {V W : vS} {f m r : Int} (h : R150 V f m r W) : W = V ∨ cAd V W := by
  rcases h with ⟨-, -, e⟩ | ⟨-, ⟨-, -, e⟩ | ⟨-, -, -, e⟩ | ⟨-, a, b, -, e⟩⟩
  · exact Or.inl e
  · exact Or.inl e
  · exact Or.inl e
  · exact Or.inr (cAd_w (cAd_v ⟨a, b⟩) (fun c j _ n8 n13 _ => by rw [e, up_c n13, outl_c n8]))
theorem cx_7 {V W : vS} {v r : Int} (h : R151 V v r W) : W = V ∨ cAd V W := by
  rcases h with ⟨-, -, e⟩ | ⟨-, ⟨-, -, e⟩ | ⟨a, b, -, e⟩⟩
  · exact Or.inl e
  · exact Or.inl e
  · exact Or.inr (cAd_w (cAd_v ⟨a, b⟩) (fun c j n6 _ _ n => e c j n6 n))
def mAd (V W : vS) : Prop := (∀ (c : Nat) j, 81 ≤ c → W c j = V c j) ∧ (∀ j, j ≠ 2 → j ≠ 11 → W 72 j = V 72 j) ∧ (∀ j, j ≠ V 72 2 → W 77 j = V 77 j) ∧ (∀ j, j < 24 * V 72 2 → W 80 j = V 80 j) ∧ ∀ (c : Nat) j, c < 72 → W c j = V c j
theorem mAd_v (V : vS) (k : Int) : mAd V (mAddV V k) := ⟨fun c j z => mAddV_c (by omega) (by omega) (by omega) (by omega) (by omega), fun j n _ => mA_o n, fun j n => by rw [mA_77, if_neg n], fun j _ => mAddV_c (by decide) (by decide) (by decide) (by decide) (by decide), fun c j z => mAddV_c (by omega) (by omega) (by omega) (by omega) (by omega)⟩
theorem mAd_w {V U W : vS} (A : mAd V U) (e : ∀ (c : Nat) j, c ≠ 74 → c ≠ 75 → c ≠ 78 → c ≠ 79 → ¬ (c = 80 ∧ 24 * V 72 2 ≤ j) → ¬ (c = 72 ∧ j = 11) → W c j = U c j) : mAd V W := by
  obtain ⟨a, b, d, f, g⟩ := A
  refine ⟨fun c j z => ?_, fun j n n' => ?_, fun j n => ?_, fun j n => ?_, fun c j z => ?_⟩
  · rw [e c j (by omega) (by omega) (by omega) (by omega) (fun w => by omega) (fun w => by omega)]; exact a c j z
  · rw [e 72 j (by decide) (by decide) (by decide) (by decide) (fun w => absurd w.1 (by decide)) (fun w => n' w.2)]; exact b j n n'
  · rw [e 77 j (by decide) (by decide) (by decide) (by decide) (fun w => absurd w.1 (by decide)) (fun w => absurd w.1 (by decide))]; exact d j n
  · rw [e 80 j (by decide) (by decide) (by decide) (by decide) (fun w => by omega) (fun w => absurd w.1 (by decide))]; exact f j n
  · rw [e c j (by omega) (by omega) (by omega) (by omega) (fun w => by omega) (fun w => by omega)]; exact g c j z
theorem mx_1 {V W : vS} {k r : Int} (h : RM205 V k r W) : W = V ∨ mAd V W := by
  rcases h with ⟨-, -, e⟩ | ⟨-, -, -, -, e⟩
  · exact Or.inl e
  · rw [e]
    exact Or.inr (mAd_v V k)
theorem mx_2 {V W : vS} {k l r : Int} (h : R207 V k l r W) : W = V ∨ mAd V W := by
  rcases h with ⟨-, -, e⟩ | ⟨-, -, -, e⟩ | ⟨-, -, V1, ⟨-, -, -, e1⟩, e⟩
  · exact Or.inl e
  · exact Or.inl e
  · exact Or.inr (mAd_w (mAd_v V k) (fun c j n74 _ _ _ _ _ => by rw [e, up_c n74, e1]))
theorem mx_7 {V W : vS} {v r : Int} (h : R208 V v r W) : W = V ∨ mAd V W := by
  rcases h with ⟨-, -, e⟩ | ⟨-, -, -, e⟩ | ⟨-, -, V1, ⟨-, -, -, e1⟩, e⟩
  · exact Or.inl e
  · exact Or.inl e
  · exact Or.inr (mAd_w (mAd_v V 6) (fun c j _ _ _ n79 _ _ => by rw [e, up_c n79, e1]))
theorem mx_6 {V W : vS} {f m r : Int} (h : R222 V f m r W) : W = V ∨ mAd V W := by
  rcases h with ⟨-, -, e⟩ | ⟨-, ⟨-, -, e⟩ | ⟨-, -, -, e⟩ | ⟨-, -, V1, ⟨-, -, er, e1⟩, e⟩⟩
  · exact Or.inl e
  · exact Or.inl e
  · exact Or.inl e
  · refine Or.inr (mAd_w (mAd_v V (if m = 1 then 5 else 4)) (fun c j _ n75 n78 _ n80 n72 => ?_))
    rw [e, er]
    refine Eq.trans (if_neg n72) ?_
    refine Eq.trans (if_neg (fun q => n80 ⟨q.1, q.2.1⟩)) ?_
    rw [up_c n78, up_c n75, e1]
theorem cB_a {V W : vS} (A : cAd V W) {b : Int} (h : cBody V b) : cBody W b ∧ W 2 b = V 2 b := by
  obtain ⟨⟨h0, h1⟩, e, f, -⟩ := A
  obtain ⟨b0, b1⟩ := h
  rw [w32_id (by omega) (by omega)] at b1
  refine ⟨⟨b0, ?_⟩, (f b (by omega)).1⟩
  rw [e, w32_id (by omega) (by omega)]
  omega
section BODY
variable {V V1 V2 : vS}
theorem mx_l (m : V2 = V1 ∨ mAd V1 V2) : ∀ (c : Nat) j, (c < 72 ∨ 146 ≤ c) → V2 c j = V1 c j := fun c j z => by
  rcases m with m | m
  · rw [m]
  · rcases z with z | z
    · exact m.2.2.2.2 c j z
    · exact m.1 c j (by omega)
theorem cx_h (c : V1 = V ∨ cAd V V1) : ∀ (c : Nat) j, 16 ≤ c → V1 c j = V c j := fun c' j z => by
  rcases c with c | c
  · rw [c]
  · exact c.2.2.2.2.2 c' j z
theorem jcf_a (F : JCf V) (c : V1 = V ∨ cAd V V1) : JCf V1 := by
  have e := cx_h c
  refine ⟨fun d => by rw [e 18 d (by decide)]; exact F.1 d, fun d d0 dN => ?_⟩
  rw [e 16 1 (by decide)] at dN
  rw [e 17 d (by decide), e 18 d (by decide)]
  obtain ⟨⟨f1, f2⟩, ⟨g1, g2⟩⟩ := F.2 d d0 dN
  rcases c with c | c
  · rw [c]
    exact ⟨⟨f1, f2⟩, ⟨g1, g2⟩⟩
  · have x := cB_a c f1
    have y := cB_a c g1
    exact ⟨⟨x.1, by rw [x.2]; exact f2⟩, ⟨y.1, by rw [y.2]; exact g2⟩⟩
theorem jcf_e {W : vS} (F : JCf V) (e : ∀ (c : Nat) j, c < 72 → W c j = V c j) : JCf W :=
  JCf_ag F ⟨e 16 1 (by decide), fun j => e 17 j (by decide), fun j => e 18 j (by decide), e 1 1 (by decide), fun j => e 2 j (by decide), trivial⟩
theorem jgone_e {W : vS} (F : JGone V) (e : ∀ (c : Nat) j, c < 72 → W c j = V c j) : JGone W :=
  JGone_ag F ⟨e 1 1 (by decide), e 1 5 (by decide), fun j => e 5 j (by decide), trivial⟩
theorem jr24_e {W : vS} (F : JR24 V) (e : ∀ (c : Nat) j, c < 72 → W c j = V c j) : JR24 W := fun j => by
  rw [e 8 j (by decide)]
  exact F j
theorem jcf_b (F : JCf V) (c : V1 = V ∨ cAd V V1) (m : V2 = V1 ∨ mAd V1 V2) : JCf V2 := jcf_e (jcf_a F c) (fun c' j z => mx_l m c' j (Or.inl z))
theorem jgone_b (G : JGone V) (c : V1 = V ∨ cAd V V1) (m : V2 = V1 ∨ mAd V1 V2) : JGone V2 := by
  refine jgone_e ?_ (fun c' j z => mx_l m c' j (Or.inl z))
  rcases c with c | ⟨⟨h0, h1⟩, e, f, g, k, -⟩
  · rw [c]
    exact G
  · unfold JGone at G ⊢
    rw [k, G]
    refine nQ_c 150 (fun j _ _ => ?_)
    unfold gnP
    rw [e]
    by_cases z : j = V 1 1
    · rw [z, g]
      exact ⟨fun w => absurd w.1 (by omega), fun w => absurd rfl w.2⟩
    · rw [(f j z).2]
      exact ⟨fun w => ⟨by have := w.1; omega, w.2⟩, fun w => ⟨by have := w.1; omega, w.2⟩⟩
theorem jsea_b (S : JSea V) (b : bd V) (c : V1 = V ∨ cAd V V1) (m : V2 = V1 ∨ mAd V1 V2) : JSea V2 := by
  refine JSea_e ?_ (mx_l m)
  rcases c with c | c
  · rw [c]
    exact S
  · obtain ⟨⟨h0, h1⟩, e, -, -, k, g⟩ := c
    have e1 := g 16 1 (by decide)
    have e2 := g 16 2 (by decide)
    have e3 := g 16 3 (by decide)
    refine JSea_c S (fun j => g 42 j (by decide)) (fun c j z => g c j (by omega)) (Or.inl (stm_lt b ?_ ?_))
    · obtain ⟨b1, b2, b3, b4, b5⟩ := b
      exact ⟨by omega, by rw [k]; exact b2, by rw [e1]; exact b3, by rw [e2]; exact b4, by rw [e3]; exact b5⟩
    · omega
theorem InM_n {c q : Int} {W : vS} (e88 : W 88 c = V 88 c) (hb : 0 ≤ V 88 c ∧ V 88 c < 150) (e80 : ∀ y, 0 ≤ y → y < 24 → W 80 (24 * V 88 c + y) = V 80 (24 * V 88 c + y)) (q0 : 0 ≤ q) (q1 : q < 576) : InM W c q ↔ InM V c q := by
  unfold InM isI
  rw [e88, iDiv_pos q0 (by omega) (by decide) (by decide), w32_id (z := 24 * V 88 c) (by omega) (by omega), w32_id (by omega) (by omega), e80 (q / 24) (by omega) (by omega)]
theorem jrk_b (R : JRk V) (C : JClm V) (F : JCf V) (B : JBody V) (c : V1 = V ∨ cAd V V1) (m : V2 = V1 ∨ mAd V1 V2) : JRk V2 := by
  have e := cx_h c
  have R1 : JRk V1 := JRk_e R (fun c' j z _ => e c' j (by omega))
  rcases m with m | m
  · rw [m]
    exact R1
  · obtain ⟨m1, m2, m3, m4, -⟩ := m
    refine rOK_n (V := V1) (W := V2) ⟨fun c => m1 87 c (by decide), fun c => m1 88 c (by decide), fun c => m1 90 c (by decide), ⟨m2 _ (by decide) (by decide), m2 _ (by decide) (by decide), m2 _ (by decide) (by decide)⟩, fun c j u v => m1 c j (by omega), fun d d0 dN => ?_⟩ (fun c j u v => m1 c j (by omega)) (m2 _ (by decide) (by decide)) (m2 _ (by decide) (by decide)) R1
    rw [e 72 19 (by decide), ← C.1] at dN
    have h1 := B.2.2.2.2.2.1
    have h2 := B.2.2.2.2.2.2.1
    obtain ⟨-, ⟨⟨g1, g2⟩, -⟩⟩ := F.2 d d0 dN
    rw [w32_id (by omega) (by omega)] at g2
    have e88 : V1 88 d = V 18 d := (e 88 d (by decide)).trans (C.2.2.1 d).symm
    have e2 : V1 72 2 = V 1 1 := (e 72 2 (by decide)).trans B.1.symm
    refine ⟨m3 _ (by rw [e88, e2]; omega), fun q q0 q1 => InM_n (m1 88 d (by decide)) (by rw [e88]; omega) (fun y y0 y1 => m4 _ (by rw [e88, e2]; omega)) q0 q1⟩
end BODY


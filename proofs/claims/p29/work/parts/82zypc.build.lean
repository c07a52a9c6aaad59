-- ===== seasons: summed up and built =====
def liI (V : vS) (q : Nat) (p : Nat) (W : vS) : Prop := (∀ (c : Nat) j, c ≠ q → c ≠ q + 1 → W c j = V c j) ∧ (∀ j, j ≠ 5 → W q j = V q j) ∧ W q 5 = ((cnN V (V q 2) (V q 3) p : Nat) : Int) ∧ ∀ p' : Nat, p' < p → cnt V (p' : Nat) (V q 2) (V q 3) → W (q + 1) ((cnN V (V q 2) (V q 3) p' : Nat) : Int) = V 21 (p' : Nat)
def pre97 (h : aH) (q : Nat) : Prop := (vw h q 0 = ((1 : Nat) : Int) ∧ vw h q 1 = ((16 : Nat) : Int) ∧ vw h q 6 = ((q + 1 : Nat) : Int) ∧ sfl (vw h) q) ∧ ((∃ t y, h.1[q + 2]? = some (.inl (t, 300, y))) ∧ (∃ t y, h.1[q + 5]? = some (.inl (t, 150, y))) ∧ (∃ t y, h.1[q + 6]? = some (.inl (t, 150, y))) ∧ (∃ t y, h.1[q + 7]? = some (.inl (t, 150, y)))) ∧ (0 ≤ vw h 16 1 ∧ vw h 16 1 ≤ 300) ∧ (∀ p, 0 ≤ p → p < vw h 16 1 → 0 ≤ vw h 18 (vw h 21 p) ∧ vw h 18 (vw h 21 p) < 150) ∧ (∀ p p', 0 ≤ p → p ≤ p' → p' < vw h 16 1 → vw h 17 (vw h 21 p) ≤ vw h 17 (vw h 21 p')) ∧ (∀ j, 0 ≤ vw h 8 j ∧ vw h 8 j < 2147483648) ∧ (0 ≤ vw h 16 2 ∧ vw h 16 2 ≤ 40) ∧ 0 ≤ vw h 16 3 ∧ vw h 16 3 ≤ 200
theorem liI_l {h : aH} {q : Nat} {W : vS} (hq : 146 ≤ q) (H : pre97 h q) (I : liI (vw h) q (vw h 16 1).toNat W) : lst W q := by
  obtain ⟨⟨f0, f1, f6, F⟩, -, hn, hf, hs, -⟩ := H
  obtain ⟨c, d, e, l⟩ := I
  have le := cnN_le (vw h) (vw h q 2) (vw h q 3) (vw h 16 1).toNat
  have el : ∀ i : Int, 0 ≤ i → i < W q 5 → ∃ p : Nat, (p : Int) < vw h 16 1 ∧ cnt (vw h) (p : Nat) (vw h q 2) (vw h q 3) ∧ ((cnN (vw h) (vw h q 2) (vw h q 3) p : Nat) : Int) = i ∧ W (q + 1) i = vw h 21 (p : Nat) := by
    intro i i0 i1
    obtain ⟨p, p1, p2, p3⟩ := cnN_inv (vw h) (vw h q 2) (vw h q 3) (vw h 16 1).toNat i.toNat (by omega)
    have z := l p p1 p2
    have e : ((cnN (vw h) (vw h q 2) (vw h q 3) p : Nat) : Int) = i := by omega
    rw [e] at z
    exact ⟨p, by omega, p2, e, z⟩
  refine ⟨⟨(d 0 (by decide)).trans f0, (d 1 (by decide)).trans f1, (d 6 (by decide)).trans f6⟩, ⟨by omega, by omega⟩, fun i i0 i1 => ?_, fun i j i0 ij j1 => ?_⟩
  · obtain ⟨p, p1, -, -, z⟩ := el i i0 i1
    unfold fdA
    rw [z, c 18 _ (by omega) (by omega)]
    exact hf p (by omega) p1
  · obtain ⟨p, p1, p2, p3, z⟩ := el i i0 (by omega)
    obtain ⟨p', p1', p2', p3', z'⟩ := el j (by omega) j1
    unfold fmA
    rw [z, z', c 17 _ (by omega) (by omega), c 17 _ (by omega) (by omega)]
    refine hs p p' (by omega) ?_ p1'
    rcases Nat.lt_or_ge p' p with w | w
    · have m := cnN_mono (vw h) (vw h q 2) (vw h q 3) (show p' + 1 ≤ p by omega)
      rw [cnN_t p2'] at m
      omega
    · omega
theorem l_97a {X : aX} {q0 : Nat} {hb : aH} (hq0 : 146 ≤ q0) (H : pre97 hb q0) {Q : aH → Prop} (fin : ∀ W2 W, liI (vw hb) q0 (vw hb 16 1).toNat W2 → rwI (fillV W2 (q0 + 2) 0 300 0) q0 24 W → ∀ h' : aH, wS h' ∧ hk hb h' ∧ vw h' = suF W q0 → Q h') : ∀ (n : Nat) (h : aH) (x1 x2 x3 : Int32) (p : Nat), wS h → hk hb h → x3.toInt = (p : Int) → (p : Int) ≤ vw hb 16 1 → liI (vw hb) q0 p (vw h) → Pt n X zM97 17 [some (.ref q0), some (.int x1), some (.int x2), some (.int x3)] [] h (qN Q) := by
  have H' := H
  obtain ⟨⟨f0, f1, f6, F⟩, ⟨y7, y10, y11, y12⟩, hn, hf, hs, h8, h2, hc⟩ := H
  intro n
  induction n with
  | zero => exact fun _ _ _ _ _ _ _ _ _ _ => pt_z
  | succ n ih =>
    intro h x1 x2 x3 p S K h3 pN I
    have I' := I
    obtain ⟨c, d, e, l⟩ := I
    have st : ∀ (c' : Nat) j, c' < 146 → vw h c' j = vw hb c' j := fun c' j z => c c' j (by omega) (by omega)
    have e16 : vw h 16 1 = vw hb 16 1 := st 16 1 (by decide)
    have g1 : vw h q0 1 = ((16 : Nat) : Int) := (d 1 (by decide)).trans f1
    have cc : ∀ j, cnt (vw h) j (vw h q0 2) (vw h q0 3) ↔ cnt (vw hb) j (vw hb q0 2) (vw hb q0 3) := fun j => by
      rw [d 2 (by decide), d 3 (by decide)]
      exact cnt_c (fun c j z => st c j (by omega)) j _ _
    refine d97_17 S rfl rfl h3 hq0 ⟨g1, fun ge => ⟨(d 7 (by decide)).trans F.1, ⟨hk_a K y7, by decide⟩, fun h6 k6 w3 g3 => ?_⟩, fun lt => ⟨g1, fun no w3 g3 => ?_, fun yes => ⟨(d 6 (by decide)).trans f6, g1, fun _ _ _ g S2 eg K2 w3 g3 => ?_⟩⟩⟩
    · have ep : p = (vw hb 16 1).toNat := by omega
      rw [ep] at I'
      have L := liI_l hq0 H' I'
      have e6 := k6.2.2
      have q6 : ∀ (c : Nat) j, c ≠ q0 + 2 → vw h6 c j = vw h c j := fun c j a => by rw [e6, fillV_c a]
      have s6 : ∀ (c' : Nat) j, c' < 146 → vw h6 c' j = vw hb c' j := fun c' j z => (q6 c' j (by omega)).trans (st c' j z)
      have gq : ∀ j, vw h6 q0 j = vw h q0 j := fun j => q6 q0 j (by omega)
      have L6 : lst (vw h6) q0 := lst_c L gq (fun j => q6 _ j (by omega)) (fun j => q6 _ j (by omega)) (fun j => q6 _ j (by omega))
      have K6 := hk_t K k6.2.1
      have F6 : sfl (vw h6) q0 := by
        obtain ⟨k7, k8, k9, k10, k11, k12⟩ := F
        exact ⟨(gq 7).trans ((d 7 (by decide)).trans k7), (gq 8).trans ((d 8 (by decide)).trans k8), (gq 9).trans ((d 9 (by decide)).trans k9), (gq 10).trans ((d 10 (by decide)).trans k10), (gq 11).trans ((d 11 (by decide)).trans k11), (gq 12).trans ((d 12 (by decide)).trans k12)⟩
      refine l_97b (hb := h6) hq0 ⟨⟨L6, F6, ⟨hk_a K6 y10, hk_a K6 y11, hk_a K6 y12⟩, by rw [s6 16 3 (by decide)]; exact hc⟩, fun j => by rw [s6 8 j (by decide)]; exact h8 j, by rw [s6 16 2 (by decide)]; exact h2⟩ n h6 x1 x2 w3 0 (fun W R h' k => fin (vw h) W I' (by rw [← e6]; exact R) h' ⟨k.1, hk_t K6 k.2.1, k.2.2⟩) k6.1 (hk_r h6) g3 (Int.le_refl _) (by decide) ⟨fun _ _ _ _ => rfl, fun i i0 i1 => ?_, fun i i0 i1 => ?_, fun y' a b => by omega⟩
      · rw [e6, fillV_i ⟨i0, by have := L6.2.1.2; omega⟩]
        rfl
      · have := L6.2.1.1
        rw [e6, fillV_i ⟨by omega, i1⟩]
    · replace g3 := w_1 g3 (by omega) (by omega)
      have no := fun z => no ((cc _).mpr z)
      refine ih h x1 x2 w3 (p + 1) S K (by omega) (by omega) ⟨c, d, by rw [cnN_f no]; exact e, fun p' h1 h2 => ?_⟩
      by_cases w : p' = p
      · subst w
        exact absurd h2 no
      · exact l p' (by omega) h2
    · replace g3 := w_1 g3 (by omega) (by omega)
      have yes := (cc _).mp yes
      have le := cnN_le (vw hb) (vw hb q0 2) (vw hb q0 3) p
      rw [up_c (show q0 ≠ q0 + 1 by omega), w32_id (by omega) (by omega)] at eg
      refine ih g x1 x2 w3 (p + 1) S2 (hk_t K K2) (by omega) (by omega) ⟨fun c' j n1 n2 => ?_, fun j n1 => ?_, ?_, fun p' h1 h2 => ?_⟩
      · rw [eg, up_c n1, up_c n2]
        exact c c' j n1 n2
      · rw [eg, up_j n1, up_c (show q0 ≠ q0 + 1 by omega)]
        exact d j n1
      · rw [eg, up_s, cnN_t yes, e]
        omega
      · rw [eg, up_c (show q0 + 1 ≠ q0 by omega), e]
        by_cases w : p' = p
        · subst w
          rw [up_s]
          exact st 21 _ (by decide)
        · have m := cnN_mono (vw hb) (vw hb q0 2) (vw hb q0 3) (show p' + 1 ≤ p by omega)
          rw [cnN_t h2] at m
          rw [up_j (by omega)]
          exact l p' (by omega) h2
def R97 (V : vS) (q : Nat) (k st : Int) (V' : vS) : Prop := ∃ W : vS, V' = suF W q ∧ (∀ (c : Nat) j, c ≠ q → c ≠ q + 1 → c ≠ q + 2 → c ≠ q + 4 → W c j = V c j) ∧ (W q 3 = k ∧ W q 4 = st ∧ ∀ j, j ≠ 3 → j ≠ 4 → j ≠ 5 → W q j = V q j) ∧ W q 5 = ((cnN V (V q 2) k (V 16 1).toNat : Nat) : Int) ∧ (∀ p : Nat, (p : Int) < V 16 1 → cnt V (p : Nat) (V q 2) k → W (q + 1) ((cnN V (V q 2) k p : Nat) : Int) = V 21 (p : Nat)) ∧ lst W q ∧ (∀ i, 0 ≤ i → i < W q 5 → W (q + 2) i = szS W q i 24) ∧ ∀ y, 0 ≤ y → y < 24 → ∀ x, x < 32 → (tb (W (q + 4) y) x = true ↔ fltB W (q + 1) y (W q 5) x)
theorem c_97 {n : Nat} {X : aX} {h : aH} {x1 x2 : Int32} {a1 a2 : Int} {q0 : Nat} (S : wS h) (z1 : x1.toInt = a1) (z2 : x2.toInt = a2) (hq0 : 146 ≤ q0) (hp : pre97 h q0) : Pt n X zM97 0 [some (.ref q0), some (.int x1), some (.int x2), none] [] h (qN (fun h' => wS h' ∧ hk h h' ∧ R97 (vw h) q0 a1 a2 (vw h'))) := by
  refine pt_d (d97_0 S z1 z2 hq0 (fun h4 S4 e4 K4 w3 g3 => ?_))
  have c : ∀ (c : Nat) j, c ≠ q0 → vw h4 c j = vw h c j := fun c j a => by rw [e4, up_c a, up_c a, up_c a]
  have d : ∀ j, j ≠ 3 → j ≠ 4 → j ≠ 5 → vw h4 q0 j = vw h q0 j := fun j a b e => by rw [e4, up_j e, up_j b, up_j a]
  have s3 : vw h4 q0 3 = a1 := by rw [e4, up_j (by decide), up_j (by decide), up_s]
  have s4 : vw h4 q0 4 = a2 := by rw [e4, up_j (by decide), up_s]
  have s5 : vw h4 q0 5 = 0 := by rw [e4, up_s]
  have s2 : vw h4 q0 2 = vw h q0 2 := d 2 (by decide) (by decide) (by decide)
  have st : ∀ (c' : Nat) j, c' < 146 → vw h4 c' j = vw h c' j := fun c' j z => c c' j (by omega)
  obtain ⟨⟨f0, f1, f6, F⟩, ⟨y7, y10, y11, y12⟩, hn, hf, hs, h8, h2, hc⟩ := hp
  have H4 : pre97 h4 q0 := by
    obtain ⟨k7, k8, k9, k10, k11, k12⟩ := F
    have dd : ∀ j, 5 < j → vw h4 q0 j = vw h q0 j := fun j z => d j (by omega) (by omega) (by omega)
    refine ⟨⟨(d 0 (by decide) (by decide) (by decide)).trans f0, (d 1 (by decide) (by decide) (by decide)).trans f1, (dd 6 (by decide)).trans f6, (dd 7 (by decide)).trans k7, (dd 8 (by decide)).trans k8, (dd 9 (by decide)).trans k9, (dd 10 (by decide)).trans k10, (dd 11 (by decide)).trans k11, (dd 12 (by decide)).trans k12⟩, ⟨hk_a K4 y7, hk_a K4 y10, hk_a K4 y11, hk_a K4 y12⟩, by rw [st 16 1 (by decide)]; exact hn, fun p p0 p1 => ?_, fun p p' p0 p1 p2 => ?_, fun j => by rw [st 8 j (by decide)]; exact h8 j, by rw [st 16 2 (by decide)]; exact h2, by rw [st 16 3 (by decide)]; exact hc⟩
    · rw [st 16 1 (by decide)] at p1
      rw [st 21 _ (by decide), st 18 _ (by decide)]
      exact hf p p0 p1
    · rw [st 16 1 (by decide)] at p2
      rw [st 21 _ (by decide), st 21 _ (by decide), st 17 _ (by decide), st 17 _ (by decide)]
      exact hs p p' p0 p1 p2
  refine l_97a (hb := h4) hq0 H4 (fun W2 W I R h' k => ⟨k.1, hk_t K4 k.2.1, W, k.2.2, ?_⟩) n h4 x1 x2 w3 0 S4 (hk_r h4) g3 (by rw [st 16 1 (by decide)]; exact hn.1) ⟨fun _ _ _ _ => rfl, fun _ _ => rfl, s5, fun p' z => by omega⟩
  have L2 := liI_l hq0 H4 I
  obtain ⟨i1, i2, i3, i4⟩ := I
  obtain ⟨A, r1, r2, r3⟩ := R
  have b : ∀ (c : Nat) j, c ≠ q0 + 2 → c ≠ q0 + 4 → W c j = W2 c j := fun c j z1 z2 => by rw [A c j z1 z2, fillV_c z1]
  have bq : ∀ j, W q0 j = W2 q0 j := fun j => b q0 j (by omega) (by omega)
  have b5 : fillV W2 (q0 + 2) 0 300 0 q0 5 = W q0 5 := by rw [fillV_c (by omega), bq]
  have n5 : W q0 5 = ((cnN (vw h) (vw h q0 2) a1 (vw h 16 1).toNat : Nat) : Int) := by
    rw [bq, i3, s2, s3, st 16 1 (by decide), cnN_c (fun c j z => st c j (by omega))]
  have LW : lst W q0 := lst_c L2 bq (fun j => b _ j (by omega) (by omega)) (fun j => b _ j (by omega) (by omega)) (fun j => b _ j (by omega) (by omega))
  refine ⟨fun c' j n1 n2 n3 n4 => by rw [b c' j n3 n4, i1 c' j n1 n2, c c' j n1], ⟨by rw [bq, i2 3 (by decide), s3], by rw [bq, i2 4 (by decide), s4], fun j n1 n2 n3 => by rw [bq, i2 j n3, d j n1 n2 n3]⟩, n5, fun p p1 p2 => ?_, LW, fun i i0 i1' => ?_, fun y y0 y1 x hx => ?_⟩
  · have z := i4 p (by rw [st 16 1 (by decide)]; omega) (by rw [s2, s3]; exact (cnt_c (fun c j z => st c j (by omega)) _ _ _).mpr p2)
    rw [s2, s3, cnN_c (fun c j z => st c j (by omega)), st 21 _ (by decide)] at z
    rw [b _ _ (by omega) (by omega)]
    exact z
  · rw [r1 i i0 (by rw [b5]; exact i1')]
    exact (szS_c hq0 A i 24).symm
  · rw [r3 y y0 y1 x hx, b5]
    have s := agr_s hq0 A
    exact (fltB_c (fun j => s 8 j (by decide)) (fun j => s 17 j (by decide)) (fun j => s 18 j (by decide)) (fun j => A _ j (by omega) (by omega))).symm


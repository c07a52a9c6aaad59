-- ===== seasons: the model reckons all =====
theorem l_239 {X : aX} {V : vS} {k : Int} (hN : 0 ≤ V 72 19 ∧ V 72 19 ≤ 300) (ho : 0 ≤ V 72 25 ∧ V 72 25 ≤ 40) (hq : 0 ≤ V 72 32 ∧ V 72 32 ≤ 200) (hf : ∀ c, 0 ≤ c → c < 300 → 0 ≤ V 87 c) : ∀ n : Nat, (∀ (h : aH) (x1 x2 : Int32) (u3 u4 : Option Value) (y : Int), wS h → x1.toInt = k → x2.toInt = y → 0 ≤ y → y ≤ 10 → M239 V (vw h) k → rvs V (vw h) k y → Pt n X zM239 56 [some (.ref 72), some (.int x1), some (.int x2), u3, u4] [] h (qN (fun h' => wS h' ∧ R239 V k (vw h')))) ∧
    (∀ (h : aH) (x1 x2 x3 : Int32) (u4 : Option Value) (y c : Int), wS h → x1.toInt = k → x2.toInt = y → x3.toInt = c → 0 ≤ y → y < 10 → 0 ≤ c → c ≤ V 72 19 → M239 V (vw h) k → fl V (vw h) k y → rvs V (vw h) k y → (∀ c', 0 ≤ c' → c' < c → mcn V c' k → iDiv (V 90 c') 365 = y → rv V (vw h) k c') → Pt n X zM239 70 [some (.ref 72), some (.int x1), some (.int x2), some (.int x3), u4] [] h (qN (fun h' => wS h' ∧ R239 V k (vw h')))) := by
  intro n
  induction n with
  | zero => exact ⟨fun _ _ _ _ _ _ _ _ _ _ _ _ _ => pt_z, fun _ _ _ _ _ _ _ _ _ _ _ _ _ _ _ _ _ _ _ => pt_z⟩
  | succ n ih =>
    obtain ⟨ihA, ihB⟩ := ih
    refine ⟨fun h x1 x2 u3 u4 y S h1 h2 y0 y9 M D => ?_, fun h x1 x2 x3 u4 y c S h1 h2 h3 y0 y9 c0 cN M F D E => ?_⟩
    · have e19 : vw h 72 19 = V 72 19 := agR_y M.1 (by decide) (by decide)
      have e25 : vw h 72 25 = V 72 25 := agR_y M.1 (by decide) (by decide)
      refine d239_56 S h1 h2 ⟨fun e => ⟨S, M, ?_⟩, fun e => ⟨⟨by rw [e19]; exact hN, by rw [e25]; exact ho, fun c a b => by rw [agR_x M.1 87 c (by decide) (by decide)]; exact hf c a b⟩, fun g R w3 u4 g3 => ?_⟩⟩
      · have ey : y = 10 := by omega
        rw [← ey]
        exact D
      · obtain ⟨A1, K1, F1⟩ := fl_of M.1 M.2.2 R.2
        refine ihB g x1 x2 w3 u4 y 0 R.1 h1 h2 g3 y0 e (Int.le_refl _) hN.1 ⟨A1, ⟨(R.2.1 72 38 (by decide) (by decide) (by decide)).trans M.2.1.1, (R.2.1 72 39 (by decide) (by decide) (by decide)).trans M.2.1.2⟩, K1⟩ F1 (fun c a b m z1 z2 => rv_c (D c a b m z1 z2) (R.2.1 104 c (by decide) (by decide) (by decide)) (R.2.1 106 c (by decide) (by decide) (by decide)) (R.2.1 105 c (by decide) (by decide) (by decide))) (fun c' a b => by omega)
    · have e19 : vw h 72 19 = V 72 19 := agR_y M.1 (by decide) (by decide)
      have e90 : vw h 90 c = V 90 c := agR_x M.1 90 c (by decide) (by decide)
      have skip : ∀ (w3 : Int32) (u4 : Option Value), c < V 72 19 → ¬ (mcn V c k ∧ iDiv (V 90 c) 365 = y) → w3.toInt = w32 (c + 1) → Pt n X zM239 70 [some (.ref 72), some (.int x1), some (.int x2), some (.int w3), u4] [] h (qN (fun h' => wS h' ∧ R239 V k (vw h'))) := by
        intro w3 u4 lt nl g3
        replace g3 := w_1 g3 (by omega) (by omega)
        refine ihB h x1 x2 w3 u4 y (c + 1) S h1 h2 g3 y0 y9 (by omega) (by omega) M F D (fun c' a b m e => ?_)
        by_cases z : c' = c
        · rw [z] at m e
          exact absurd ⟨m, e⟩ nl
        · exact E c' a (by omega) m e
      refine d239_70 S h1 h2 h3 ⟨fun e w2 u3 u4 g2 => ?_, fun e p0 p1 => ⟨fun e2 w3 u4 g3 => skip w3 u4 (by omega) (fun z => by rw [M.2.2 c c0 (by omega), bI_t z.1] at e2; exact absurd e2 (by decide)) g3, fun e2 => ⟨fun e3 => ⟨⟨by rw [e19]; exact hN, p0, p1⟩, fun g R => ?_⟩, fun e3 w3 u4 g3 => skip w3 u4 (by omega) (fun z => e3 (by rw [e90]; exact z.2)) g3⟩⟩⟩
      · replace g2 := w_1 g2 (by omega) (by omega)
        refine ihA h x1 w2 u3 u4 (y + 1) S h1 g2 (by omega) (by omega) M (fun c' a b m z1 z2 => ?_)
        by_cases z : iDiv (V 90 c') 365 = y
        · exact E c' a (by omega) m z
        · exact D c' a b m z1 (by omega)
      · have cN' : c < V 72 19 := by omega
        rw [e90] at e3
        have live : mcn V c k := Classical.byContradiction (fun w => e2 (by rw [M.2.2 c c0 cN', bI_f w]))
        obtain ⟨s1, s2, s3⟩ := st_238 M.1 M.2.2 F e3 R.2
        have A1 : agR V (vw g) := fun c' j z1 z2 => (s3 c' j (by omega) (Or.inl ⟨by omega, by omega⟩)).trans (M.1 c' j z1 z2)
        have e32 : vw g 72 32 = V 72 32 := agR_y A1 (by decide) (by decide)
        have ew : w32 (vw g 104 c - mmg (vw g) c k (vw g 72 32).toNat) = w32 (vG V k c - mmg V c k (V 72 32).toNat) := by rw [s1, mmg_r A1, e32]
        have fin : ∀ (f : aH) (w3 : Int32) (u4 : Option Value) (v : Int), wS f → vw f = up (vw g) 105 c v → v = vF V k c → w3.toInt = w32 (c + 1) → Pt n X zM239 70 [some (.ref 72), some (.int x1), some (.int x2), some (.int w3), u4] [] f (qN (fun h' => wS h' ∧ R239 V k (vw h'))) := by
          intro f w3 u4 v S2 ef ev g3
          replace g3 := w_1 g3 (by omega) (by omega)
          have far : ∀ c', c' ≠ c → rv V (vw h) k c' → rv V (vw f) k c' := fun c' n r => rv_c r (by rw [ef, up_c (by decide), s3 104 c' (by decide) (Or.inr n)]) (by rw [ef, up_c (by decide), s3 106 c' (by decide) (Or.inr n)]) (by rw [ef, up_j n, s3 105 c' (by decide) (Or.inr n)])
          refine ihB f x1 x2 w3 u4 y (c + 1) S2 h1 h2 g3 y0 y9 (by omega) (by omega) ⟨fun c' j z1 z2 => by rw [ef, up_c (by omega)]; exact A1 c' j z1 z2, ⟨by rw [ef, up_c (by decide), s3 72 38 (by decide) (Or.inl (by decide))]; exact M.2.1.1, by rw [ef, up_c (by decide), s3 72 39 (by decide) (Or.inl (by decide))]; exact M.2.1.2⟩, fun c' a b => by rw [ef, up_c (by decide), s3 103 c' (by decide) (Or.inl (by decide))]; exact M.2.2 c' a b⟩ (fun q a b => ?_) (fun c' a b m z1 z2 => far c' (fun z => by rw [z] at z2; omega) (D c' a b m z1 z2)) (fun c' a b m e => ?_)
          · rw [ef, up_c (by decide), up_c (by decide), s3 109 q (by decide) (Or.inl (by decide)), s3 108 q (by decide) (Or.inl (by decide))]
            exact F q a b
          · by_cases z : c' = c
            · rw [z]
              exact ⟨by rw [ef, up_c (by decide)]; exact s1, by rw [ef, up_c (by decide)]; exact s2, by rw [ef, up_s, ev]⟩
            · exact far c' z (E c' a (by omega) m e)
        refine ⟨by rw [e32]; exact hq, fun e4 f S2 ef w3 u4 g3 => fin f w3 u4 _ S2 ef ?_ g3, fun e4 f S2 ef w3 u4 g3 => fin f w3 u4 _ S2 ef ?_ g3⟩
        · rw [ew] at e4 ⊢
          unfold vF
          exact (if_pos e4).symm
        · rw [ew] at e4
          unfold vF
          exact (if_neg (by omega)).symm
theorem l_239i {X : aX} {V : vS} {k : Int} (hN : 0 ≤ V 72 19 ∧ V 72 19 ≤ 300) (ho : 0 ≤ V 72 25 ∧ V 72 25 ≤ 40) (hq : 0 ≤ V 72 32 ∧ V 72 32 ≤ 200) (hf : ∀ c, 0 ≤ c → c < 300 → 0 ≤ V 87 c) : ∀ (n : Nat) (h : aH) (x1 x2 : Int32) (c : Int), wS h → x1.toInt = k → x2.toInt = c → 0 ≤ c → c ≤ V 72 19 → agR V (vw h) → (vw h 72 38 = 0 ∧ vw h 72 39 = k) → (∀ c', 0 ≤ c' → c' < c → vw h 103 c' = bI (mcn V c' k)) → Pt n X zM239 28 [some (.ref 72), some (.int x1), some (.int x2), none, none] [] h (qN (fun h' => wS h' ∧ R239 V k (vw h'))) := by
  intro n
  induction n with
  | zero => exact fun _ _ _ _ _ _ _ _ _ _ _ _ => pt_z
  | succ n ih =>
    intro h x1 x2 c S h1 h2 c0 cN A fg K
    have e19 : vw h 72 19 = V 72 19 := agR_y A (by decide) (by decide)
    refine d239_28 S h1 h2 ⟨fun e w2 u3 u4 g2 => ?_, fun e => ⟨by rw [e19]; exact hN, fun p0 p1 g S2 eg w2 g2 => ?_⟩⟩
    · exact (l_239 hN ho hq hf n).1 h x1 w2 u3 u4 0 S h1 g2 (Int.le_refl _) (by decide) ⟨A, fg, fun c' a b => K c' a (by omega)⟩ (fun c' a b m z1 z2 => by omega)
    · replace g2 := w_1 g2 (by omega) (by omega)
      rw [b01b] at eg
      refine ih g x1 w2 (c + 1) S2 h1 g2 (by omega) (by omega) (fun c' j z1 z2 => by rw [eg, up_c (by omega)]; exact A c' j z1 z2) (by rw [eg, up_c (by decide), up_c (by decide)]; exact fg) (fun c' a b => ?_)
      by_cases z : c' = c
      · rw [z, eg, up_s]
        exact bI_c (mcn_r A c k)
      · rw [eg, up_j z]
        exact K c' a (by omega)
def rOK (V : vS) : Prop := V 72 38 = 0 → rk V V (V 72 39) ∧ rvs V V (V 72 39) 10
def q239 (V : vS) : Prop := (0 ≤ V 72 19 ∧ V 72 19 ≤ 300) ∧ (0 ≤ V 72 25 ∧ V 72 25 ≤ 40) ∧ (0 ≤ V 72 32 ∧ V 72 32 ≤ 200) ∧ (∀ c, 0 ≤ c → c < 300 → 0 ≤ V 87 c) ∧ rOK V
theorem c_239 {n : Nat} {X : aX} {h : aH} {x1 : Int32} {a1 : Int} (S : wS h) (z1 : x1.toInt = a1) (hp : q239 (vw h)) : Pt n X zM239 0 [some (.ref 72), some (.int x1), none, none, none] [] h (qN (fun h' => wS h' ∧ R239 (vw h) a1 (vw h'))) := by
  obtain ⟨hN, ho, hq, hf, ok⟩ := hp
  have go : ∀ (g : aH) (w2 : Int32), wS g → vw g = up (up (vw h) 72 38 0) 72 39 a1 → w2.toInt = 0 → Pt n X zM239 28 [some (.ref 72), some (.int x1), some (.int w2), none, none] [] g (qN (fun h' => wS h' ∧ R239 (vw h) a1 (vw h'))) := by
    intro g w2 S2 eg g2
    refine l_239i hN ho hq hf n g x1 w2 0 S2 z1 g2 (Int.le_refl _) hN.1 (fun c j _ z => ?_) ⟨by rw [eg, up_j (by decide), up_s], by rw [eg, up_s]⟩ (fun c' a b => by omega)
    rw [eg]
    rcases z with z | z
    · rw [up_c z, up_c z]
    · rw [up_j z.2, up_j z.1]
  refine pt_d (d239_0 S z1 ⟨fun e g S2 eg w2 g2 => go g w2 S2 eg g2, fun e => ⟨fun e2 g S2 eg w2 g2 => go g w2 S2 eg g2, fun e2 => ⟨S, ⟨agR_r _, ⟨e, e2⟩, ?_⟩, ?_⟩⟩⟩)
  · rw [← e2]
    exact (ok e).1
  · rw [← e2]
    exact (ok e).2


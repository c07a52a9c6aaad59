-- ===== seasons: both sides =====
theorem cl1_u {V : vS} {f b y k c d : Int} (h : cl1 V f b y k c) (g : cl1 V f b y k d) (c0 : c < V 72 19) (d0 : d < V 72 19) : c = d := by
  obtain ⟨m, h1, h2, h3⟩ := h
  obtain ⟨m', g1, g2, g3⟩ := g
  rcases Int.lt_trichotomy c d with z | z | z
  · exact (mcn_u m m'.1 z d0 (by rw [h1, g1]) (by rw [h2, g2]) (by rw [h3, g3])).elim
  · exact z
  · exact (mcn_u m' m.1 z c0 (by rw [h1, g1]) (by rw [h2, g2]) (by rw [h3, g3])).elim
def JNum (V : vS) : Prop := (∀ j, 0 ≤ V 30 j ∧ V 30 j ≤ 576) ∧ JOut2 V ∧ JR24 V
theorem eq18 {V : vS} {q : Nat} {f b y k w r1 r2 i : Int} (E : EQ V) (O : JOut V) (K : JCtl V) (N : JNum V) (hl : ∀ c, 0 ≤ c → c < V 16 1 → lt1 V c = lt0 V c) (S : scK V q y k) (hw : 0 ≤ w ∧ w ≤ 4) (pl : plc V q f b i) (c : (i = -1 ∧ r1 = -2) ∨ (i ≠ -1 ∧ r1 = sval V q b i w)) (m : (r2 = -2 ∧ ∀ c, 0 ≤ c → c < V 72 19 → ¬ cl1 V f b y k c) ∨ ∃ c, (0 ≤ c ∧ c < V 72 19) ∧ cl1 V f b y k c ∧ r2 = cval V k c w) : r1 = r2 := by
  have E0 := E
  obtain ⟨C, B, Od, hd, r, r8, rf⟩ := E0
  obtain ⟨⟨q2, q3⟩, L, sz, fl, ls, -⟩ := S
  rcases pl with ⟨rfl, no⟩ | ⟨⟨i0, iN⟩, pf, pb'⟩
  · rcases c with ⟨-, rfl⟩ | ⟨z, -⟩
    · rcases m with ⟨rfl, -⟩ | ⟨c, n, h, -⟩
      · rfl
      · obtain ⟨p, pN, z, e, lt, s⟩ := li_m C B Od hd L n.1 n.2 ⟨h.1, h.2.2.2⟩
        refine absurd ⟨?_, ?_⟩ (no _ (by omega) lt)
        · unfold fmA
          rw [s, C.2.1]
          exact h.2.1
        · unfold fdA
          rw [s, C.2.2.1]
          exact h.2.2.1
    · exact absurd rfl z
  · rcases c with ⟨z, -⟩ | ⟨-, rfl⟩
    · omega
    · obtain ⟨p, pN, zc, ci, e⟩ := li_s L i0 iN
      have m0 := Od.1 (p : Nat) (by omega) pN
      have l0 := (cnt_l C B Od hd (by omega) pN).mp zc
      rw [← e] at m0 l0
      have n0 : V (q + 1) i < V 72 19 := by rw [← C.1]; exact m0.2
      unfold fmA at pf
      unfold fdA at pb'
      have h0 : cl1 V f b y k (V (q + 1) i) := ⟨l0.1, by rw [← C.2.1]; exact pf, by rw [← C.2.2.1]; exact pb', l0.2⟩
      rcases m with ⟨-, no⟩ | ⟨c, n, h, rfl⟩
      · exact absurd h0 (no _ m0.1 n0)
      · have ec := cl1_u h h0 n.2 n0
        subst ec
        have sv : V (q + 2) i = vG V k (V (q + 1) i) := by
          unfold vG
          rw [sz i i0 iN, l0.2]
          exact size_e E L O N.2.1 N.2.2 q2 q3 i0 iN 24 (Nat.le_refl _)
        have gb : 0 ≤ vG V k (V (q + 1) i) ∧ vG V k (V (q + 1) i) ≤ 576 := nQ_b _ 576
        have mb := msg_b N.1 (V (q + 1) i) y k (V 16 3).toNat
        have me : msg V (V (q + 1) i) y k (V 16 3).toNat = mmg V (V (q + 1) i) k (V 72 32).toNat := by
          rw [← l0.2, msg_e C K, K.1]
        unfold sval cval
        by_cases w0 : w = 0
        · rw [if_pos w0, if_pos w0, sv]
        · by_cases w1 : w = 1
          · rw [if_neg w0, if_pos w1, if_neg w0, if_pos w1, ls i i0 iN, sv]
            unfold vF
            rw [← me]
            generalize msg V (V (q + 1) i) y k (V 16 3).toNat = u at mb
            generalize vG V k (V (q + 1) i) = g at gb
            rw [w32_id (z := g - u) (by omega) (by omega), w32_id (by omega) (by omega)]
            split <;> omega
          · by_cases w2 : w = 2
            · rw [if_neg w0, if_neg w1, if_pos w2, if_neg w0, if_neg w1, if_pos w2, C.2.2.2.1]
            · by_cases w3 : w = 3
              · rw [if_neg w0, if_neg w1, if_neg w2, if_pos w3, if_neg w0, if_neg w1, if_neg w2, if_pos w3, ← pb']
                unfold vB
                rw [l0.2]
                exact bad_e E L N.2.2 fl 24 (Nat.le_refl _)
              · rw [if_neg w0, if_neg w1, if_neg w2, if_neg w3, if_neg w0, if_neg w1, if_neg w2, if_neg w3]
                exact hl _ m0.1 m0.2


-- ===== seasons: the relation =====
-- a claim
theorem mx_13 {V W : vS} {f b c r : Int} (h : R230 V f b c r W) : (∀ (c : Nat) j, (c < 72 ∨ 91 ≤ c) → W c j = V c j) ∧ (W = V ∨ W 72 38 = 1) := by
  rcases h with ⟨-, -, e⟩ | ⟨-, -, -, e⟩ | ⟨-, -, -, -, e⟩ | ⟨-, -, -, -, -, e⟩
  · exact ⟨fun _ _ _ => by rw [e], Or.inl e⟩
  · exact ⟨fun _ _ _ => by rw [e], Or.inl e⟩
  · exact ⟨fun _ _ _ => by rw [e], Or.inl e⟩
  · refine ⟨fun c j z => ?_, Or.inr ?_⟩
    · rw [e]
      unfold mClmV
      rw [up_c (by omega), up_c (by omega), up_c (by omega), up_c (by omega), up_c (by omega), up_c (by omega)]
    · rw [e]
      unfold mClmV
      rw [up_s]
theorem cx_13 {V W : vS} {f b c r : Int} (N0 : 0 ≤ V 16 1 ∧ V 16 1 ≤ 300) (h : R157o V f b c r W) : W = V ∨ ((cFarm V f ∧ cField V b) ∧ V 16 1 < 300 ∧ ∀ (c' : Nat) j, c' ≠ 21 → W c' j = up (clmV V f b c) 16 1 (V 16 1 + 1) c' j) := by
  rcases h with ⟨-, -, e⟩ | ⟨-, -, -, e⟩ | ⟨-, -, -, -, e⟩ | ⟨z1, z2, z3, z4, z5⟩
  · exact Or.inl e
  · exact Or.inl e
  · exact Or.inl e
  · rcases z4 with ⟨w, -⟩ | ⟨w0, w1, -, e⟩
    · omega
    · rw [w32_id (by omega) (by omega)] at e
      exact Or.inr ⟨⟨z1.1, z1.2.1⟩, z3, e⟩
theorem clm_c {V : vS} {f b c : Int} {c' : Nat} {j x : Int} (h : c' < 16 ∨ 21 < c') : up (clmV V f b c) 16 1 x c' j = V c' j := by
  rw [up_c (by omega)]
  unfold clmV
  rw [up_c (by omega), up_c (by omega), up_c (by omega), up_c (by omega)]
section CLM
variable {V V1 V2 : vS} {f b k r1 r2 : Int}
theorem jx_13o (J : JBody V) (K : JHand V) (L : JClm V) (hd : V 1 0 = V 72 1) (c : R157o V f b k r1 V1) (m : R230 V1 f b k r2 V2) : JClm V2 ∧ r1 = r2 := jx_13 J K L hd (o157 c) m
theorem jord_13 (O : JOrd V) (D : JDay V) (d0 : 0 ≤ V 1 0) (L : JClm V) (c : R157o V f b k r1 V1) (m : R230 V1 f b k r2 V2) : JOrd V2 ∧ JDay V2 := by
  obtain ⟨a, b⟩ := jo_13 O D d0 L.2.2.2.2.2 c
  have e := (mx_13 m).1
  exact ⟨JOrd_ag a ⟨e 16 1 (by decide), fun j => e 17 j (by decide), fun j => e 18 j (by decide), fun j => e 20 j (by decide), fun j => e 21 j (by decide), trivial⟩, JDay_ag b ⟨fun j => e 20 j (by decide), e 1 0 (by decide), trivial⟩⟩
theorem jcf_13 (F : JCf V) (B : JBody V) (L : JClm V) (c : R157o V f b k r1 V1) (m : R230 V1 f b k r2 V2) : JCf V2 := by
  refine jcf_e (V := V1) ?_ (fun c j z => (mx_13 m).1 c j (Or.inl z))
  rcases cx_13 L.2.2.2.2.2 c with e | ⟨⟨hf, hb⟩, -, e⟩
  · rw [e]
    exact F
  · have r := hF_of B b hb
    have u17 : ∀ d, V1 17 d = if d = V 16 1 then f else V 17 d := fun d => by
      rw [e 17 d (by decide), up_c (by decide)]
      unfold clmV
      rw [up_c (by decide), up_c (by decide), up_c (by decide)]
      exact up_p
    have u18 : ∀ d, V1 18 d = if d = V 16 1 then b else V 18 d := fun d => by
      rw [e 18 d (by decide), up_c (by decide)]
      unfold clmV
      rw [up_c (by decide), up_c (by decide), up_p, up_c (by decide)]
    have n1 : V1 16 1 = V 16 1 + 1 := by rw [e 16 1 (by decide), up_s]
    have e1 : V1 1 1 = V 1 1 := (e 1 1 (by decide)).trans (clm_c (by decide))
    have e2 : ∀ j, V1 2 j = V 2 j := fun j => (e 2 j (by decide)).trans (clm_c (by decide))
    have cf : ∀ x, cFarm V1 x ↔ cFarm V x := fun x => by
      unfold cFarm cBody
      rw [e1, e2]
    have cg : ∀ x, cField V1 x ↔ cField V x := fun x => by
      unfold cField cBody
      rw [e1, e2]
    refine ⟨fun d => ?_, fun d d0 dN => ?_⟩
    · rw [u18]
      split
      · exact r
      · exact F.1 d
    · rw [cf, cg, u17, u18]
      by_cases z : d = V 16 1
      · rw [if_pos z, if_pos z]
        exact ⟨hf, hb⟩
      · rw [if_neg z, if_neg z]
        exact F.2 d d0 (by omega)
theorem jsea_13 (S : JSea V) (bb : bd V) (c : R157o V f b k r1 V1) (m : R230 V1 f b k r2 V2) : JSea V2 := by
  have e2 := (mx_13 m).1
  refine JSea_e (V := V1) ?_ (fun c j z => e2 c j (by omega))
  rcases cx_13 bb.2.2.1 c with e | ⟨-, lt, e⟩
  · rw [e]
    exact S
  · have h : ∀ (c : Nat) j, (c < 16 ∨ 21 < c) → V1 c j = V c j := fun c j z => (e c j (by omega)).trans (clm_c z)
    have n1 : V1 16 1 = V 16 1 + 1 := by rw [e 16 1 (by decide), up_s]
    have n2 : ∀ i, i ≠ 1 → V1 16 i = V 16 i := fun i n => by
      rw [e 16 i (by decide), up_j n]
      unfold clmV
      rw [up_c (by decide), up_c (by decide), up_c (by decide), up_c (by decide)]
    have b2 := n2 2 (by decide)
    have b3 := n2 3 (by decide)
    have a1 := h 1 1 (by decide)
    have a5 := h 1 5 (by decide)
    obtain ⟨g1, g2, g3, g4, g5⟩ := bb
    refine JSea_c S (fun j => h 42 j (by decide)) (fun c j z => h c j (by omega)) (Or.inl (stm_lt ⟨g1, g2, g3, g4, g5⟩ ⟨by rw [a1]; exact g1, by rw [a5]; exact g2, by omega, by rw [b2]; exact g4, by rw [b3]; exact g5⟩ ?_))
    omega
theorem jrk_13 (R : JRk V) (L : JClm V) (c : R157o V f b k r1 V1) (m : R230 V1 f b k r2 V2) : JRk V2 := by
  refine jrk_s R (fun c' j u _ => ?_) (mx_13 m).2
  rcases cx_13 L.2.2.2.2.2 c with e | ⟨-, -, e⟩
  · rw [e]
  · exact (e c' j (by omega)).trans (clm_c (by omega))
end CLM
-- squares out
theorem mx_15 {V W : vS} {a b d r : Int} (h : R232 V a b d r W) : (∀ (c : Nat) j, (c < 72 ∨ 98 ≤ c) → W c j = V c j) ∧ (W = V ∨ W 72 38 = 1) := by
  rcases h with ⟨-, -, e⟩ | ⟨-, -, -, e⟩ | ⟨-, -, -, e⟩
  · exact ⟨fun _ _ _ => by rw [e], Or.inl e⟩
  · exact ⟨fun _ _ _ => by rw [e], Or.inl e⟩
  · refine ⟨fun c j z => ?_, Or.inr ?_⟩
    · rw [e]
      unfold mOutV
      rw [up_c (by omega), up_c (by omega), up_c (by omega), up_c (by omega), up_c (by omega), up_c (by omega), up_c (by omega), up_c (by omega)]
    · rw [e]
      unfold mOutV
      rw [up_s]
theorem cx_15 {V W : vS} {a b d r : Int} (h : R159 V a b d r W) : W = V ∨ (V 16 2 < 40 ∧ W = cOutV V a b d) := by
  rcases h.2 with ⟨-, -, e⟩ | ⟨-, -, -, e⟩ | ⟨-, lt, h⟩
  · exact Or.inl e
  · exact Or.inl e
  · rcases h with ⟨w, -⟩ | ⟨-, -, -, e⟩
    · omega
    · exact Or.inr ⟨lt, e⟩
theorem outV_c {V : vS} {a b d : Int} {c : Nat} {j : Int} (h : c < 16 ∨ (16 < c ∧ c < 23) ∨ 26 < c) : cOutV V a b d c j = V c j := by
  unfold cOutV
  rw [up_c (by omega), up_c (by omega), up_c (by omega), up_c (by omega), up_c (by omega)]
section OUT
variable {V V1 V2 : vS} {a b d r1 r2 : Int}
theorem cx_15h (c : R159 V a b d r1 V1) : ∀ (c : Nat) j, 27 ≤ c → V1 c j = V c j := fun c' j z => by
  rcases cx_15 c with e | ⟨-, e⟩
  · rw [e]
  · rw [e, outV_c (by omega)]
theorem jo2_15 (O : JOut V) (O2 : JOut2 V) (O' : JOut V2) (c : R159 V a b d r1 V1) (m : R232 V1 a b d r2 V2) : JOut2 V2 := by
  have h := cx_15h c
  have e1 := O.1
  have e2 := O'.1
  intro j j0 j1
  rw [e2] at j1
  have hn := h 72 25 (by decide)
  have b0 := O.2.1
  have b1 := O.2.2.1
  rcases m with ⟨-, -, e⟩ | ⟨-, -, -, e⟩ | ⟨ok, -, -, e⟩
  · rw [e, h 72 25 (by decide), ← e1] at j1
    rw [e, h 92 j (by decide), h 94 j (by decide)]
    exact O2 j j0 j1
  · rw [e, h 72 25 (by decide), ← e1] at j1
    rw [e, h 92 j (by decide), h 94 j (by decide)]
    exact O2 j j0 j1
  · have t92 : V2 92 j = if j = V1 72 25 then iDiv a 100 else V1 92 j := by
      rw [e]
      unfold mOutV
      rw [up_c (by decide), up_c (by decide), up_c (by decide), up_c (by decide), up_c (by decide), up_c (by decide), up_c (by decide), up_p]
    have t94 : V2 94 j = if j = V1 72 25 then iDiv b 100 else V1 94 j := by
      rw [e]
      unfold mOutV
      rw [up_c (by decide), up_c (by decide), up_c (by decide), up_c (by decide), up_c (by decide), up_p, up_c (by decide), up_c (by decide)]
    have tn : V2 72 25 = w32 (V1 72 25 + 1) := by
      rw [e]
      unfold mOutV
      rw [up_j (by decide), up_s]
    rw [tn, w32_id (by omega) (by omega)] at j1
    rw [t92, t94]
    obtain ⟨-, -, o1, -, o2, -⟩ := ok
    by_cases z : j = V1 72 25
    · rw [if_pos z, if_pos z]
      omega
    · rw [if_neg z, if_neg z, h 92 j (by decide), h 94 j (by decide)]
      exact O2 j j0 (by omega)
theorem jsea_15 (S : JSea V) (bb : bd V) (c : R159 V a b d r1 V1) (m : R232 V1 a b d r2 V2) : JSea V2 := by
  have e2 := (mx_15 m).1
  refine JSea_e (V := V1) ?_ (fun c j z => e2 c j (by omega))
  rcases cx_15 c with e | ⟨lt, e⟩
  · rw [e]
    exact S
  · obtain ⟨g1, g2, g3, g4, g5⟩ := bb
    have n2 : V1 16 2 = V 16 2 + 1 := by
      rw [e]
      unfold cOutV
      rw [up_s, w32_id (by omega) (by omega)]
    have ni : ∀ i, i ≠ 2 → V1 16 i = V 16 i := fun i n => by
      rw [e]
      unfold cOutV
      rw [up_j n, up_c (by decide), up_c (by decide), up_c (by decide), up_c (by decide)]
    have b1 := ni 1 (by decide)
    have b3 := ni 3 (by decide)
    have a1 : V1 1 1 = V 1 1 := by rw [e, outV_c (by decide)]
    have a5 : V1 1 5 = V 1 5 := by rw [e, outV_c (by decide)]
    refine JSea_c S (fun j => by rw [e, outV_c (by decide)]) (fun c j z => by rw [e, outV_c (by omega)]) (Or.inl (stm_lt ⟨g1, g2, g3, g4, g5⟩ ⟨by rw [a1]; exact g1, by rw [a5]; exact g2, by rw [b1]; exact g3, by omega, by rw [b3]; exact g5⟩ ?_))
    omega
theorem jrk_15 (R : JRk V) (c : R159 V a b d r1 V1) (m : R232 V1 a b d r2 V2) : JRk V2 := jrk_s R (fun c' j u _ => cx_15h c c' j (by omega)) (mx_15 m).2
end OUT


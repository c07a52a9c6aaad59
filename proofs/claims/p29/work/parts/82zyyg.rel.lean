-- ===== seasons: the relation =====
-- all that both sides know of seasons alike
def AP (V : vS) : Prop := EQ V ∧ JOut V ∧ JCtl V ∧ JNum V ∧ ∀ c, 0 ≤ c → c < V 16 1 → lt1 V c = lt0 V c
theorem AP_of {V : vS} (C : JClm V) (B : JBody V) (O : JOut V) (Od : JOrd V) (D : JDay V) (d1 : V 1 0 ≤ 3649) (F : JCf V) (Rw : JRows V) (R : JR24 V) (K : JCtl V) (N : J30 V) (O2 : JOut2 V) (h74 : ∀ j, 0 ≤ j → j < 150 → 0 ≤ V 74 j ∧ V 74 j ≤ 3) (h22 : ∀ j, 0 ≤ j → j < 4 → V 22 j = V 91 j) : AP V :=
  ⟨⟨C, B, Od, fun c => ⟨(D c).1, by have := (D c).2; omega⟩, Rw, fun j => ⟨(R j).1, by have := R j; omega⟩, F.1⟩, O, K, ⟨N, O2, R⟩, late_of B F C h74 h22⟩
theorem AP_f {V W : vS} (A : AP V) (e : ∀ (c : Nat) j, c < 146 → c ≠ 42 → W c j = V c j) : AP W := by
  obtain ⟨⟨C, B, Od, d, Rw, r8, r18⟩, O, K, ⟨N, O2, R⟩, l⟩ := A
  refine ⟨⟨JClm_ag C (ag_of e _ (by decide)), JBody_ag B (ag_of e _ (by decide)), JOrd_ag Od (ag_of e _ (by decide)), fun c => by rw [e 20 c (by decide) (by decide)]; exact d c, JRows_ag Rw (ag_of e _ (by decide)), fun j => by rw [e 8 j (by decide) (by decide)]; exact r8 j, fun j => by rw [e 18 j (by decide) (by decide)]; exact r18 j⟩, JOut_ag O (ag_of e _ (by decide)), JCtl_ag K (ag_of e _ (by decide)), ⟨J30_ag N (ag_of e _ (by decide)), JOut2_ag O2 (ag_of e _ (by decide)), JR24_ag R (ag_of e _ (by decide))⟩, fun c c0 cN => ?_⟩
  rw [e 16 1 (by decide) (by decide)] at cN
  have h := l c c0 cN
  unfold lt1 lt0 at h ⊢
  rw [e 17 c (by decide) (by decide), e 3 _ (by decide) (by decide), e 20 c (by decide) (by decide), e 22 _ (by decide) (by decide), e 90 c (by decide) (by decide), e 87 c (by decide) (by decide), e 74 _ (by decide) (by decide), e 91 _ (by decide) (by decide)]
  exact h
theorem R1_f {h h' : aH} {y k : Int} {q : Nat} (R : R1 h y k q h') : ∀ (c : Nat) j, c < 146 → c ≠ 42 → vw h' c j = vw h c j := fun c j u v => by
  obtain ⟨⟨hq, K, -, D⟩, R⟩ := R
  rcases R with ⟨-, -, -, rfl⟩ | ⟨U, R97', ⟨L, U2, U42⟩, F⟩
  · rfl
  · obtain ⟨sc, fr, v4⟩ := scK_b hq R97' U2
    rw [fr c j (Or.inl (by omega))]
    rcases F with ⟨-, rfl⟩ | ⟨-, -, f⟩
    · rfl
    · exact f c j (by omega) (Or.inl v)
theorem R1_sc {h h' : aH} {y k : Int} {q : Nat} (I : IV h) (R : R1 h y k q h') : scK (vw h') q y k := by
  obtain ⟨⟨hq, K, ⟨y0, y9⟩, D⟩, R⟩ := R
  rcases R with ⟨e, e3, e4, rfl⟩ | ⟨U, R97', ⟨L, U2, U42⟩, F⟩
  · have g := (I.2.1 y y0 (by omega) q e).2.2.2.2.2.2 e4
    rw [e3] at g
    exact g
  · exact (scK_b hq R97' U2).1
theorem has_e {V : vS} {q : Nat} {f b y k i : Int} (E : EQ V) (S : scK V q y k) (pl : plc V q f b i) : i ≠ -1 ↔ has1 V f b y k := by
  have E0 := E
  obtain ⟨C, B, Od, hd, -⟩ := E0
  obtain ⟨-, L, -⟩ := S
  rcases pl with ⟨rfl, no⟩ | ⟨⟨i0, iN⟩, pf, pb'⟩
  · refine ⟨fun z => absurd rfl z, fun ⟨c, n, h⟩ => ?_⟩
    obtain ⟨p, pN, z, e, lt, s⟩ := li_m C B Od hd L n.1 n.2 ⟨h.1, h.2.2.2⟩
    refine absurd ⟨?_, ?_⟩ (no _ (by omega) lt)
    · unfold fmA
      rw [s, C.2.1]
      exact h.2.1
    · unfold fdA
      rw [s, C.2.2.1]
      exact h.2.2.1
  · refine ⟨fun _ => ?_, fun _ => by omega⟩
    obtain ⟨p, pN, zc, ci, e⟩ := li_s L i0 iN
    have m0 := Od.1 (p : Nat) (by omega) pN
    have l0 := (cnt_l C B Od hd (by omega) pN).mp zc
    rw [← e] at m0 l0
    unfold fmA at pf
    unfold fdA at pb'
    exact ⟨V (q + 1) i, ⟨m0.1, by rw [← C.1]; exact m0.2⟩, l0.1, by rw [← C.2.1]; exact pf, by rw [← C.2.2.1]; exact pb', l0.2⟩
theorem ok_fr {V W : vS} (B : JBody W) (e : ∀ (c : Nat) j, c < 72 → c ≠ 42 → W c j = V c j) (f b : Int) : (cFarm V f ↔ mFarm W f) ∧ (cField V b ↔ mField W b) := by
  rw [← farm_j B, ← field_j B]
  unfold cFarm cField cBody
  rw [e 1 1 (by decide) (by decide), e 2 f (by decide) (by decide), e 2 b (by decide) (by decide)]
  exact ⟨Iff.rfl, Iff.rfl⟩
theorem JSea_R {V W : vS} (J : JSea V) (A : agR V W) : JSea W :=
  JSea_c J (fun j => A 42 j (Or.inl (by decide)) (Or.inl (by decide))) (fun c j z => A c j (Or.inr (by omega)) (Or.inl (by omega))) (Or.inr ⟨stm_c (fun c j z => A c j (Or.inl (by omega)) (Or.inl (by omega))), fun c j z => A c j (Or.inl (by omega)) (Or.inl (by omega))⟩)
theorem jx_16 {h h1 h2 : aH} {f b y k w r1 r2 : Int} (I0 : IV h) (A : AP (vw h)) (c : wS h1 ∧ R160 h f b y k w r1 h1) (m : wS h2 ∧ R242 (vw h1) f b y k w r2 (vw h2)) : (JSea (vw h2) ∧ JRk (vw h2)) ∧ r1 = r2 := by
  obtain ⟨-, c⟩ := c
  obtain ⟨-, ⟨AR, Rk⟩, an⟩ := m
  have IV1 : IV h1 := by
    rcases c with ⟨-, -, rfl⟩ | ⟨-, q, R, -⟩
    · exact I0
    · exact IV_1 I0 R
  have fr : ∀ (c : Nat) j, c < 146 → c ≠ 42 → vw h1 c j = vw h c j := by
    rcases c with ⟨-, -, rfl⟩ | ⟨-, q, R, -⟩
    · exact fun _ _ _ _ => rfl
    · exact R1_f R
  have A1 := AP_f A fr
  refine ⟨⟨JSea_R (JSea_IV IV1) AR, Rk⟩, ?_⟩
  obtain ⟨okf, okb⟩ := ok_fr (V := vw h) A1.1.2.1 (fun c j u v => fr c j (by omega) v) f b
  have ok : ok16 (vw h) f b y k w ↔ ok18 (vw h1) f b y k w := by
    unfold ok16 ok18
    rw [okf, okb]
  rcases c with ⟨n, rfl, e⟩ | ⟨o, q, R, i, pl, an1⟩
  · rcases an with ⟨-, rfl⟩ | ⟨o', -⟩
    · rfl
    · exact absurd (ok.mpr o') n
  · rcases an with ⟨n, -⟩ | ⟨-, m⟩
    · exact absurd (ok.mp o) n
    · exact eq18 A1.1 A1.2.1 A1.2.2.1 A1.2.2.2.1 A1.2.2.2.2 (R1_sc I0 R) o.2.2.2.2 pl an1 m


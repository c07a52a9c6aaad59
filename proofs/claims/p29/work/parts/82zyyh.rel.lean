-- ===== seasons: the relation =====
theorem has_c {V W : vS} (e : ∀ (c : Nat) j, 72 ≤ c → c ≤ 110 → W c j = V c j) (f b y k : Int) : has1 W f b y k ↔ has1 V f b y k := by
  have A : agM V W := ⟨fun c j u v => e c j (by omega) (by omega), e 72 _ (by decide) (by decide), e 72 _ (by decide) (by decide), e 72 _ (by decide) (by decide)⟩
  unfold has1 cl1
  simp only [mcn_m A, agM_19 A, e 87 _ (by decide) (by decide), e 88 _ (by decide) (by decide), e 90 _ (by decide) (by decide)]
-- a control told on both sides
theorem ctl_b {V V1 U V2 : vS} {f b y m : Int} (K : JCtl V) (N : J30 V) (S : JSea V) (bb : bd V) (hd : V 1 0 = V 72 1) (hm : 0 ≤ m ∧ m ≤ 576) (lt : V 16 3 < 200)
    (e1 : V1 = up (up (up (up (up (up V 27 (V 16 3) f) 28 (V 16 3) b) 29 (V 16 3) y) 30 (V 16 3) m) 31 (V 16 3) (V 1 0)) 16 3 (w32 (V 16 3 + 1))) (A : agR V1 U)
    (e2 : V2 = up (up (up (up (up (up (up U 98 (V1 72 32) f) 99 (V1 72 32) b) 100 (V1 72 32) y) 101 (V1 72 32) m) 102 (V1 72 32) (V1 72 1)) 72 32 (w32 (V1 72 32 + 1))) 72 38 1) : JCtl V2 ∧ J30 V2 ∧ JSea V2 ∧ JRk V2 := by
  obtain ⟨k0, k1, k2, k3, k4, k5, k6, k7⟩ := K
  have hi : ∀ (c : Nat) j, (c < 16 ∨ 31 < c) → V1 c j = V c j := fun c j z => by
    rw [e1, up_c (by omega), up_c (by omega), up_c (by omega), up_c (by omega), up_c (by omega), up_c (by omega)]
  have n32 : V1 72 32 = V 16 3 := (hi 72 32 (by decide)).trans k0.symm
  have n1 : V1 72 1 = V 1 0 := (hi 72 1 (by decide)).trans hd.symm
  rw [n32, n1] at e2
  have lo : ∀ (c : Nat) j, c < 72 → V2 c j = V1 c j := fun c j z => by
    rw [e2, up_c (by omega), up_c (by omega), up_c (by omega), up_c (by omega), up_c (by omega), up_c (by omega), up_c (by omega)]
    exact A c j (Or.inl (by omega)) (Or.inl (by omega))
  have la : ∀ (c : Nat) j, 146 ≤ c → V2 c j = V1 c j := fun c j z => by
    rw [e2, up_c (by omega), up_c (by omega), up_c (by omega), up_c (by omega), up_c (by omega), up_c (by omega), up_c (by omega)]
    exact A c j (Or.inr (by omega)) (Or.inl (by omega))
  have s3 : V1 16 3 = V 16 3 + 1 := by rw [e1, up_s, w32_id (by omega) (by omega)]
  have t27 : ∀ j, V1 27 j = if j = V 16 3 then f else V 27 j := fun j => by rw [e1, up_c (by decide), up_c (by decide), up_c (by decide), up_c (by decide), up_c (by decide), up_p]
  have t28 : ∀ j, V1 28 j = if j = V 16 3 then b else V 28 j := fun j => by rw [e1, up_c (by decide), up_c (by decide), up_c (by decide), up_c (by decide), up_p, up_c (by decide)]
  have t29 : ∀ j, V1 29 j = if j = V 16 3 then y else V 29 j := fun j => by rw [e1, up_c (by decide), up_c (by decide), up_c (by decide), up_p, up_c (by decide), up_c (by decide)]
  have t30 : ∀ j, V1 30 j = if j = V 16 3 then m else V 30 j := fun j => by rw [e1, up_c (by decide), up_c (by decide), up_p, up_c (by decide), up_c (by decide), up_c (by decide)]
  have t31 : ∀ j, V1 31 j = if j = V 16 3 then V 1 0 else V 31 j := fun j => by rw [e1, up_c (by decide), up_p, up_c (by decide), up_c (by decide), up_c (by decide), up_c (by decide)]
  have hu : ∀ (c : Nat) j, 98 ≤ c → c ≤ 102 → U c j = V c j := fun c j u v => (A c j (Or.inl (by omega)) (Or.inl (by omega))).trans (hi c j (by omega))
  refine ⟨⟨?_, fun j => ?_, fun j => ?_, fun j => ?_, fun j => ?_, fun j => ?_, ?_, ?_⟩, fun j => ?_, ?_, fun z => ?_⟩
  · rw [lo 16 3 (by decide), s3, e2, up_j (by decide), up_s, w32_id (by omega) (by omega)]
  · rw [lo 27 j (by decide), t27, e2, up_c (by decide), up_c (by decide), up_c (by decide), up_c (by decide), up_c (by decide), up_c (by decide), up_p, hu 98 j (by decide) (by decide), k1]
  · rw [lo 28 j (by decide), t28, e2, up_c (by decide), up_c (by decide), up_c (by decide), up_c (by decide), up_c (by decide), up_p, up_c (by decide), hu 99 j (by decide) (by decide), k2]
  · rw [lo 29 j (by decide), t29, e2, up_c (by decide), up_c (by decide), up_c (by decide), up_c (by decide), up_p, up_c (by decide), up_c (by decide), hu 100 j (by decide) (by decide), k3]
  · rw [lo 30 j (by decide), t30, e2, up_c (by decide), up_c (by decide), up_c (by decide), up_p, up_c (by decide), up_c (by decide), up_c (by decide), hu 101 j (by decide) (by decide), k4]
  · rw [lo 31 j (by decide), t31, e2, up_c (by decide), up_c (by decide), up_p, up_c (by decide), up_c (by decide), up_c (by decide), up_c (by decide), hu 102 j (by decide) (by decide), k5]
  · rw [lo 16 3 (by decide), s3]
    omega
  · rw [lo 16 3 (by decide), s3]
    omega
  · rw [lo 30 j (by decide), t30]
    split
    · exact hm
    · exact N j
  · have ni : ∀ i, i ≠ 3 → V1 16 i = V 16 i := fun i n => by
      rw [e1, up_j n, up_c (by decide), up_c (by decide), up_c (by decide), up_c (by decide), up_c (by decide)]
    have b1 := ni 1 (by decide)
    have b2 := ni 2 (by decide)
    have a1 := hi 1 1 (by decide)
    have a5 := hi 1 5 (by decide)
    obtain ⟨g1, g2, g3, g4, g5⟩ := bb
    refine JSea_e (V := V1) (JSea_c S (fun j => hi 42 j (by decide)) (fun c j z => hi c j (by omega)) (Or.inl (stm_lt ⟨g1, g2, g3, g4, g5⟩ ⟨by rw [a1]; exact g1, by rw [a5]; exact g2, by rw [b1]; exact g3, by rw [b2]; exact g4, by omega⟩ (by omega)))) (fun c j z => ?_)
    rcases z with z | z
    · exact lo c j z
    · exact la c j z
  · rw [e2, up_s] at z
    cases z
theorem jx_17 {h h1 h2 : aH} {f b y m r1 r2 : Int} (I0 : IV h) (A : AP (vw h)) (bb : bd (vw h)) (hd : vw h 1 0 = vw h 72 1) (c : wS h1 ∧ R161 h f b y m r1 h1) (mm : wS h2 ∧ R243 (vw h1) f b y m r2 (vw h2)) : (JCtl (vw h2) ∧ J30 (vw h2) ∧ JSea (vw h2) ∧ JRk (vw h2)) ∧ r1 = r2 := by
  obtain ⟨-, c⟩ := c
  obtain ⟨-, U, ⟨AR, Rk⟩, mm⟩ := mm
  -- nothing told: all but the reckonings is as it was
  have stay : ∀ {g : aH}, IV g → AP (vw g) → agR (vw g) U → vw h2 = U → JCtl (vw h2) ∧ J30 (vw h2) ∧ JSea (vw h2) ∧ JRk (vw h2) := fun {g} Ig Ag AR e => by
    rw [e]
    have a : ∀ (c : Nat) j, c < 103 → c ≠ 72 → U c j = vw g c j := fun c j u v => agR_x AR c j u v
    refine ⟨?_, fun j => by rw [a 30 j (by decide) (by decide)]; exact Ag.2.2.2.1.1 j, JSea_R (JSea_IV Ig) AR, Rk⟩
    exact JCtl_ag Ag.2.2.1 ⟨a 16 3 (by decide) (by decide), agR_y AR (by decide) (by decide), fun j => a 27 j (by decide) (by decide), fun j => a 98 j (by decide) (by decide), fun j => a 28 j (by decide) (by decide), fun j => a 99 j (by decide) (by decide), fun j => a 29 j (by decide) (by decide), fun j => a 100 j (by decide) (by decide), fun j => a 30 j (by decide) (by decide), fun j => a 101 j (by decide) (by decide), fun j => a 31 j (by decide) (by decide), fun j => a 102 j (by decide) (by decide), trivial⟩
  rcases c with ⟨n, rfl, rfl⟩ | ⟨o, q, g, R, i, pl, c⟩
  · obtain ⟨okf, okb⟩ := ok_fr (V := vw h1) A.1.2.1 (fun _ _ _ _ => rfl) f b
    rcases mm with ⟨-, rfl, e⟩ | ⟨⟨o1, o2, o3⟩, -⟩
    · exact ⟨stay I0 A AR e, rfl⟩
    · exact absurd ⟨okf.mpr o1, okb.mpr o2, o3⟩ n
  · have fr := R1_f R
    have Ag := AP_f A fr
    have Ig := IV_1 I0 R
    have he := has_e Ag.1 (R1_sc I0 R) pl
    have hdg : vw g 1 0 = vw g 72 1 := by rw [fr 1 0 (by decide) (by decide), fr 72 1 (by decide) (by decide)]; exact hd
    have d0 : vw h 1 0 = vw g 72 1 := by rw [← hdg, fr 1 0 (by decide) (by decide)]
    obtain ⟨o1, o2, o3, o4⟩ := o
    rw [d0] at he
    rcases c with ⟨ei, rfl, rfl⟩ | ⟨ni, ⟨full, rfl, rfl⟩ | ⟨lt, c⟩⟩
    · obtain ⟨okf, okb⟩ := ok_fr (V := vw h) Ag.1.2.1 (fun c j u v => fr c j (by omega) v) f b
      rcases mm with ⟨n, -⟩ | ⟨-, ⟨-, rfl, e⟩ | ⟨hs, -⟩⟩
      · exact absurd ⟨okf.mp o1, okb.mp o2, o3, o4⟩ n
      · exact ⟨stay Ig Ag AR e, rfl⟩
      · exact absurd ei (he.mpr hs)
    · obtain ⟨okf, okb⟩ := ok_fr (V := vw h) Ag.1.2.1 (fun c j u v => fr c j (by omega) v) f b
      have k := Ag.2.2.1
      rcases mm with ⟨n, -⟩ | ⟨-, ⟨nh, -⟩ | ⟨-, ⟨-, rfl, e⟩ | ⟨ne, -⟩⟩⟩
      · exact absurd ⟨okf.mp o1, okb.mp o2, o3, o4⟩ n
      · exact absurd (he.mp ni) nh
      · exact ⟨stay Ig Ag AR e, rfl⟩
      · have := k.1
        have := k.2.2.2.2.2.2.2
        omega
    · rcases c with ⟨ge, -⟩ | ⟨-, rfl, e1⟩
      · omega
      · have hi : ∀ (c : Nat) j, (c < 16 ∨ 31 < c) → vw h1 c j = vw g c j := fun c j z => by
          rw [e1, up_c (by omega), up_c (by omega), up_c (by omega), up_c (by omega), up_c (by omega), up_c (by omega)]
        have hs : has1 (vw h1) f b y (vw h1 72 1) ↔ has1 (vw g) f b y (vw g 72 1) := by
          rw [hi 72 1 (by decide)]
          exact has_c (fun c j u _ => hi c j (by omega)) f b y _
        have okf : cFarm (vw h) f ↔ mFarm (vw h1) f := by
          rw [(ok_fr (V := vw h) Ag.1.2.1 (fun c j u v => fr c j (by omega) v) f b).1]
          unfold mFarm mBody
          rw [hi 72 2 (by decide), hi 73 f (by decide)]
        have okb : cField (vw h) b ↔ mField (vw h1) b := by
          rw [(ok_fr (V := vw h) Ag.1.2.1 (fun c j u v => fr c j (by omega) v) f b).2]
          unfold mField mBody
          rw [hi 72 2 (by decide), hi 73 b (by decide)]
        have k := Ag.2.2.1
        have n32 := hi 72 32 (by decide)
        have bg : bd (vw g) := by
          have z : ∀ (c : Nat) j, c < 42 → vw g c j = vw h c j := fun c j u => fr c j (by omega) (by omega)
          unfold bd
          rw [z 1 1 (by decide), z 1 5 (by decide), z 16 1 (by decide), z 16 2 (by decide), z 16 3 (by decide)]
          exact bb
        rcases mm with ⟨n, -⟩ | ⟨-, ⟨nh, -⟩ | ⟨-, ⟨fu, -⟩ | ⟨-, rfl, e2⟩⟩⟩
        · exact absurd ⟨okf.mp o1, okb.mp o2, o3, o4⟩ n
        · exact absurd (hs.mpr (he.mp ni)) nh
        · have := k.1
          omega
        · refine ⟨ctl_b k Ag.2.2.2.1.1 (JSea_IV Ig) bg hdg o4 lt e1 AR e2, ?_⟩
          rw [n32, ← k.1]
theorem jm_16 {h h1 : aH} {f b y k w r : Int} (I0 : IV h) (c : wS h1 ∧ R160 h f b y k w r h1) : q239 (vw h1) := by
  rcases c.2 with ⟨-, -, rfl⟩ | ⟨-, q, R, -⟩
  · exact I0.2.2.2
  · exact (IV_1 I0 R).2.2.2
theorem q239_e {V W : vS} (Q : q239 V) (e : ∀ (c : Nat) j, 72 ≤ c → c ≤ 110 → W c j = V c j) : q239 W := by
  obtain ⟨a, b, c, d, r⟩ := Q
  exact ⟨by rw [e 72 19 (by decide) (by decide)]; exact a, by rw [e 72 25 (by decide) (by decide)]; exact b, by rw [e 72 32 (by decide) (by decide)]; exact c, fun c' u v => by rw [e 87 c' (by decide) (by decide)]; exact d c' u v, JRk_e r e⟩
theorem jm_17 {h h1 : aH} {f b y m r : Int} (I0 : IV h) (c : wS h1 ∧ R161 h f b y m r h1) : q239 (vw h1) := by
  rcases c.2 with ⟨-, -, rfl⟩ | ⟨-, q, g, R, i, -, c⟩
  · exact I0.2.2.2
  · have Q := (IV_1 I0 R).2.2.2
    rcases c with ⟨-, -, rfl⟩ | ⟨-, ⟨-, -, rfl⟩ | ⟨-, c⟩⟩
    · exact Q
    · exact Q
    · rcases c with ⟨-, -, e⟩ | ⟨-, -, e⟩
      · rw [e]
        exact Q
      · refine q239_e Q (fun c j u _ => ?_)
        rw [e, up_c (by omega), up_c (by omega), up_c (by omega), up_c (by omega), up_c (by omega), up_c (by omega)]
theorem jday_0 {V W : vS} (D : JDay V) (e : ∀ j, W 20 j = V 20 j) (l : V 1 0 ≤ W 1 0) : JDay W := fun c => by
  rw [e]
  have := D c
  omega
-- at the start
theorem vzr {c t n : Nat} (e : zH0.1[c]? = some (.inl (t, n, .inr (.inr (.inr (.inr (fun _ => none))))))) {j : Int} (h : 0 ≤ j) : vw zH0 c j = -1 := (vw_a e h).trans rfl
theorem zJOrd0 : JOrd (vw zH0) := by
  have e1 : vw zH0 16 1 = 0 := vzf (i := 1) (x := 0) zh16 rfl
  refine ⟨fun p a b => ?_, fun p p' a b c => ?_, fun c a b => ?_, fun c c' a b d => ?_⟩
  · rw [e1] at b; omega
  · rw [e1] at c; omega
  · rw [e1] at b; omega
  · rw [e1] at d; omega
theorem zJDay0 : JDay (vw zH0) := fun c => by
  have e1 : vw zH0 1 0 = 0 := vzf (i := 0) (x := 0) zh1 rfl
  rw [vz zh20, e1]
  decide
theorem zJCf0 : JCf (vw zH0) := by
  have e1 : vw zH0 16 1 = 0 := vzf (i := 1) (x := 0) zh16 rfl
  refine ⟨fun c => by rw [vz zh18]; decide, fun c a b => ?_⟩
  rw [e1] at b
  omega
theorem zJR240 : JR24 (vw zH0) := fun j => by
  rw [vz zh8]
  decide
theorem zJ300 : J30 (vw zH0) := fun j => by
  rw [vz zh30]
  decide
theorem zJOut20 : JOut2 (vw zH0) := fun j a b => by
  have e1 : vw zH0 16 2 = 0 := vzf (i := 2) (x := 0) zh16 rfl
  rw [e1] at b
  omega
theorem zJCtl0 : JCtl (vw zH0) := by
  have e1 : vw zH0 16 3 = 0 := vzf (i := 3) (x := 0) zh16 rfl
  have e2 : vw zH0 72 32 = 0 := vzf (i := 32) (x := 0) zh72 rfl
  exact ⟨by rw [e1, e2], fun j => by rw [vz zh27, vz zh98], fun j => by rw [vz zh28, vz zh99], fun j => by rw [vz zh29, vz zh100], fun j => by rw [vz zh30, vz zh101], fun j => by rw [vz zh31, vz zh102], by rw [e1]; decide, by rw [e1]; decide⟩
theorem nQ_0 {P : Int → Prop} (h : ∀ j, 0 ≤ j → ¬ P j) : ∀ n : Nat, nQ P n = 0
  | 0 => rfl
  | n + 1 => by rw [nQ_f (h _ (by omega)), nQ_0 h n]; rfl
theorem zJGone0 : JGone (vw zH0) := by
  have e1 : vw zH0 1 1 = 0 := vzf (i := 1) (x := 0) zh1 rfl
  have e5 : vw zH0 1 5 = 0 := vzf (i := 5) (x := 0) zh1 rfl
  unfold JGone
  rw [e5, nQ_0 (fun j a w => ?_)]
  have := w.1
  rw [e1] at this
  omega
theorem zJSea0 : JSea (vw zH0) := by
  have n : ∀ y : Int, 0 ≤ y → ∀ q : Nat, vw zH0 42 y = (q : Int) → False := fun y a q e => by
    rw [vzr zh42 a] at e
    omega
  exact ⟨fun y a _ q e => (n y a q e).elim, fun y y' a _ _ q _ e _ => (n y a.1 q e).elim⟩
theorem zJRk0 : JRk (vw zH0) := by
  have e1 : vw zH0 72 19 = 0 := vzf (i := 19) (x := 0) zh72 rfl
  intro _
  refine ⟨fun c a b => ?_, fun c a b => ?_⟩
  · rw [e1] at b; omega
  · rw [e1] at b; omega


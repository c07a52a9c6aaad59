-- ===== seasons: the relation =====
-- the small pieces
def JCf (V : vS) : Prop := (∀ c, 0 ≤ V 18 c ∧ V 18 c < 150) ∧ ∀ c, 0 ≤ c → c < V 16 1 → cFarm V (V 17 c) ∧ cField V (V 18 c)
def J30 (V : vS) : Prop := ∀ j, 0 ≤ V 30 j ∧ V 30 j ≤ 576
def gnP (V : vS) (j : Int) : Prop := j < V 1 1 ∧ V 5 j ≠ -1
def JGone (V : vS) : Prop := V 1 5 = nQ (gnP V) 150
theorem JGone_b {V : vS} (G : JGone V) : 0 ≤ V 1 5 ∧ V 1 5 ≤ 150 := by
  rw [G]
  exact nQ_b _ 150
def LOrd : List (Nat × Option Nat) := [(16, some 1), (17, none), (18, none), (20, none), (21, none)]
theorem JOrd_ag {V W : vS} (J : JOrd V) (A : ag LOrd V W) : JOrd W := by
  obtain ⟨a1, a2, a3, a4, a5, -⟩ := A
  have a1 : W 16 1 = V 16 1 := a1
  unfold JOrd lxl at J ⊢
  simp only [a1, a2, a3, a4, a5]
  exact J
def LDay : List (Nat × Option Nat) := [(20, none), (1, some 0)]
theorem JDay_ag {V W : vS} (J : JDay V) (A : ag LDay V W) : JDay W := by
  obtain ⟨a1, a2, -⟩ := A
  have a2 : W 1 0 = V 1 0 := a2
  unfold JDay at J ⊢
  simp only [a1, a2]
  exact J
def LCf : List (Nat × Option Nat) := [(16, some 1), (17, none), (18, none), (1, some 1), (2, none)]
theorem JCf_ag {V W : vS} (J : JCf V) (A : ag LCf V W) : JCf W := by
  obtain ⟨a1, a2, a3, a4, a5, -⟩ := A
  have a1 : W 16 1 = V 16 1 := a1
  have a4 : W 1 1 = V 1 1 := a4
  unfold JCf cFarm cField cBody at J ⊢
  simp only [a1, a2, a3, a4, a5]
  exact J
def LR24 : List (Nat × Option Nat) := [(8, none)]
theorem JR24_ag {V W : vS} (J : JR24 V) (A : ag LR24 V W) : JR24 W := fun j => by
  rw [A.1 j]
  exact J j
def L30 : List (Nat × Option Nat) := [(30, none)]
theorem J30_ag {V W : vS} (J : J30 V) (A : ag L30 V W) : J30 W := fun j => by
  rw [A.1 j]
  exact J j
def LOut2 : List (Nat × Option Nat) := [(16, some 2), (92, none), (94, none)]
theorem JOut2_ag {V W : vS} (J : JOut2 V) (A : ag LOut2 V W) : JOut2 W := by
  obtain ⟨a1, a2, a3, -⟩ := A
  have a1 : W 16 2 = V 16 2 := a1
  unfold JOut2 at J ⊢
  simp only [a1, a2, a3]
  exact J
def LCtl : List (Nat × Option Nat) := [(16, some 3), (72, some 32), (27, none), (98, none), (28, none), (99, none), (29, none), (100, none), (30, none), (101, none), (31, none), (102, none)]
theorem JCtl_ag {V W : vS} (J : JCtl V) (A : ag LCtl V W) : JCtl W := by
  obtain ⟨a1, a2, a3, a4, a5, a6, a7, a8, a9, a10, a11, a12, -⟩ := A
  have a1 : W 16 3 = V 16 3 := a1
  have a2 : W 72 32 = V 72 32 := a2
  unfold JCtl at J ⊢
  simp only [a1, a2, a3, a4, a5, a6, a7, a8, a9, a10, a11, a12]
  exact J
def LGone : List (Nat × Option Nat) := [(1, some 1), (1, some 5), (5, none)]
theorem JGone_ag {V W : vS} (J : JGone V) (A : ag LGone V W) : JGone W := by
  obtain ⟨a1, a2, a3, -⟩ := A
  have a1 : W 1 1 = V 1 1 := a1
  have a2 : W 1 5 = V 1 5 := a2
  unfold JGone at J ⊢
  rw [a2, J]
  refine nQ_c 150 (fun j _ _ => ?_)
  unfold gnP
  rw [a1, a3]
section DG
variable {W : List (Nat × Nat)} {σ σ1 : List Nat} {h h1 : aH}
theorem JOrd_dG (J : JOrd (vw h)) (I : dI σ h) (G : dG W σ h σ1 h1) (k : frL W LOrd = true) : JOrd (vw h1) := JOrd_ag J (ag_dG I.1 G _ k)
theorem JDay_dG (J : JDay (vw h)) (I : dI σ h) (G : dG W σ h σ1 h1) (k : frL W LDay = true) : JDay (vw h1) := JDay_ag J (ag_dG I.1 G _ k)
theorem JCf_dG (J : JCf (vw h)) (I : dI σ h) (G : dG W σ h σ1 h1) (k : frL W LCf = true) : JCf (vw h1) := JCf_ag J (ag_dG I.1 G _ k)
theorem JR24_dG (J : JR24 (vw h)) (I : dI σ h) (G : dG W σ h σ1 h1) (k : frL W LR24 = true) : JR24 (vw h1) := JR24_ag J (ag_dG I.1 G _ k)
theorem J30_dG (J : J30 (vw h)) (I : dI σ h) (G : dG W σ h σ1 h1) (k : frL W L30 = true) : J30 (vw h1) := J30_ag J (ag_dG I.1 G _ k)
theorem JOut2_dG (J : JOut2 (vw h)) (I : dI σ h) (G : dG W σ h σ1 h1) (k : frL W LOut2 = true) : JOut2 (vw h1) := JOut2_ag J (ag_dG I.1 G _ k)
theorem JCtl_dG (J : JCtl (vw h)) (I : dI σ h) (G : dG W σ h σ1 h1) (k : frL W LCtl = true) : JCtl (vw h1) := JCtl_ag J (ag_dG I.1 G _ k)
theorem JGone_dG (J : JGone (vw h)) (I : dI σ h) (G : dG W σ h σ1 h1) (k : frL W LGone = true) : JGone (vw h1) := JGone_ag J (ag_dG I.1 G _ k)
end DG
-- a frame over numbers
theorem ag_of {V W : vS} (e : ∀ (c : Nat) j, c < 146 → c ≠ 42 → W c j = V c j) : ∀ L : List (Nat × Option Nat), L.all (fun t => Nat.blt t.1 146 && !(Nat.beq t.1 42)) = true → ag L V W
  | [], _ => trivial
  | (c, none) :: r, k => by
    rw [List.all_cons, Bool.and_eq_true] at k
    have k1 := k.1
    simp only [Bool.and_eq_true, Bool.not_eq_true', Nat.blt_eq] at k1
    exact ⟨fun j => e c j k1.1 (fun z => by have := k1.2; rw [z] at this; exact absurd this (by decide)), ag_of e r k.2⟩
  | (c, some i) :: r, k => by
    rw [List.all_cons, Bool.and_eq_true] at k
    have k1 := k.1
    simp only [Bool.and_eq_true, Bool.not_eq_true', Nat.blt_eq] at k1
    exact ⟨e c _ k1.1 (fun z => by have := k1.2; rw [z] at this; exact absurd this (by decide)), ag_of e r k.2⟩
theorem bd_of {V : vS} (C : JClm V) (B : JBody V) (O : JOut V) (K : JCtl V) (G : JGone V) : bd V := ⟨⟨B.2.2.2.2.2.1, B.2.2.2.2.2.2.1⟩, JGone_b G, C.2.2.2.2.2, ⟨O.2.1, O.2.2.1⟩, K.2.2.2.2.2.2⟩
theorem pb_of {V : vS} (C : JClm V) (B : JBody V) (O : JOut V) (Od : JOrd V) (F : JCf V) (R : JR24 V) (K : JCtl V) (G : JGone V) : pb V := by
  refine ⟨⟨⟨B.2.2.2.2.2.1, B.2.2.2.2.2.2.1⟩, JGone_b G⟩, C.2.2.2.2.2, fun p _ _ => F.1 _, fun p p' a b c => ?_, fun j => ⟨(R j).1, by have := R j; omega⟩, ⟨O.2.1, O.2.2.1⟩, K.2.2.2.2.2.2⟩
  by_cases z : p = p'
  · rw [z]
    exact Int.le_refl _
  · have := Od.2.1 p p' a (by omega) c
    unfold lxl at this
    omega
theorem IV_of {σ : List Nat} {h : aH} (I : dI σ h) (C : JClm (vw h)) (B : JBody (vw h)) (O : JOut (vw h)) (Od : JOrd (vw h)) (F : JCf (vw h)) (R : JR24 (vw h)) (K : JCtl (vw h)) (G : JGone (vw h)) (S : JSea (vw h)) (Rk : JRk (vw h)) : IV h := by
  refine ⟨pb_of C B O Od F R K G, fun y y0 y9 q e => ?_, S.2, ⟨by rw [← C.1]; exact C.2.2.2.2.2, by rw [← O.1]; exact ⟨O.2.1, O.2.2.1⟩, by rw [← K.1]; exact K.2.2.2.2.2.2, fun c c0 c1 => ?_, Rk⟩⟩
  · obtain ⟨a, b, c, e5, f, g⟩ := S.1 y y0 y9 q e
    exact ⟨a, b, c, skd_of I (sk_q I y0 e) b, e5, f, g⟩
  · rw [← C.2.1 c]
    exact (vw_rng I (c := 17) (a := 0) (n := 300) (lo := 0) (hi := 149) (by decide +kernel) c0 c1).1
theorem p1_IV {h : aH} (I : IV h) : ∀ y, 0 ≤ y → y ≤ 9 → p1 h y := fun y y0 y9 => ⟨I.1, fun _ _ q e => by
  obtain ⟨a, b, c, d, -⟩ := I.2.1 y y0 y9 q e.symm
  exact ⟨a, b, c, d⟩⟩
theorem hn_IV {h : aH} (I : IV h) : ∀ q : Nat, (∃ y, (0 ≤ y ∧ y ≤ 9) ∧ (q : Int) = vw h 42 y) → vw h q 5 ≤ 300 := fun q ⟨y, hy, e⟩ => (I.2.1 y hy.1 hy.2 q e.symm).2.2.2.2.1
theorem hF_of {V : vS} (B : JBody V) : ∀ b, cField V b → 0 ≤ b ∧ b < 150 := fun b h => by
  have h1 := B.2.2.2.2.2.1
  have h2 := B.2.2.2.2.2.2.1
  obtain ⟨⟨h3, h4⟩, -⟩ := h
  rw [w32_id (by omega) (by omega)] at h4
  omega
theorem max_if (d : Int) : max 0 d = if 0 ≤ d then d else 0 := by
  split <;> omega
theorem late_of {V : vS} (B : JBody V) (F : JCf V) (C : JClm V) (h74 : ∀ j, 0 ≤ j → j < 150 → 0 ≤ V 74 j ∧ V 74 j ≤ 3) (h22 : ∀ j, 0 ≤ j → j < 4 → V 22 j = V 91 j) : ∀ c, 0 ≤ c → c < V 16 1 → lt1 V c = lt0 V c := by
  intro c c0 cN
  obtain ⟨⟨⟨f1, f2⟩, f3⟩, -⟩ := F.2 c c0 cN
  have n0 := B.2.2.2.2.2.1
  have n1 := B.2.2.2.2.2.2.1
  rw [w32_id (by omega) (by omega)] at f2
  have e := (B.2.2.2.2.2.2.2.2 (V 17 c) f1 (by omega)).1 f3
  have r := h74 (V 17 c) f1 (by omega)
  unfold lt1 lt0
  rw [if_pos (by rw [e]; exact r), ← C.2.1, ← C.2.2.2.2.1, e, h22 _ r.1 (by omega)]
  exact max_if _


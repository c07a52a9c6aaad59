-- ===== the reference keeps the texts laid out =====
def JCode (V : vS) : Prop := ∀ t, 0 ≤ t → t < V 33 7 → (0 ≤ V 36 t ∧ V 36 t ≤ 160) ∧ V 119 t ≤ 90 ∧ ∃ ls, Lns (oT V t) 0 ls ∧ lAtR V t 0 0 ls
def LCode : List (Nat × Option Nat) := [(33, some 7), (35, none), (36, none), (119, none), (120, none), (121, none), (122, none), (123, none)]
theorem JCode_ag {V W : vS} (J : JCode V) (A : ag LCode V W) : JCode W := by
  obtain ⟨a1, a2, a3, a4, a5, a6, a7, a8, -⟩ := A
  have a1 : W 33 7 = V 33 7 := a1
  intro t t0 t1
  rw [a1] at t1
  obtain ⟨j1, j2, ls, j3, j4⟩ := J t t0 t1
  refine ⟨by rw [a3]; exact j1, by rw [a4]; exact j2, ls, ?_, lAtR_k ls 0 0 (a4 t) (fun j _ _ => ⟨a5 _, a6 _⟩) (fun j _ => ⟨a7 j, a8 j⟩) j4⟩
  have e : oT W t = oT V t := by
    funext p
    unfold oT
    rw [a3, a2]
  rw [e]
  exact j3
theorem JCode_dG {W : List (Nat × Nat)} {σ σ1 : List Nat} {h h1 : aH} (J : JCode (vw h)) (I : dI σ h) (G : dG W σ h σ1 h1) (k : frL W LCode = true) : JCode (vw h1) := JCode_ag J (ag_dG I.1 G _ k)
theorem zJCode0 : JCode (vw zH0) := by
  have e3 : vw zH0 33 7 = 0 := vzf (i := 7) (x := 0) zh33 rfl
  intro t t0 t1
  rw [e3] at t1
  omega
theorem jc_24 {V V1 V2 : vS} {w y r1 r2 : Int} (J : JTxt V) (C : JCode V) (c : R168 V w y r1 V1) (m : R264 V1 w y r2 V2) (mv : R264v V1 V2) (b34 : ∀ j, 0 ≤ j → j < 160 → -128 ≤ V 34 j ∧ V 34 j ≤ 127) (b35 : ∀ j, 0 ≤ j → j < 2560 → -128 ≤ V 35 j ∧ V 35 j ≤ 127) : JCode V2 := by
  have eT := tT_e J
  obtain ⟨⟨j1, j2, j3⟩, j4, ⟨j5, j6, j7⟩, j8⟩ := J
  rcases c with ⟨a, -, rfl⟩ | ⟨a, c⟩
  · rcases m with ⟨-, -, rfl⟩ | ⟨a', -⟩
    · exact C
    · exact absurd a' a
  rcases c with ⟨ge, -, rfl⟩ | ⟨lt, q, f, p, c⟩
  · rcases m with ⟨a', -⟩ | ⟨-, ⟨b', -, rfl⟩ | ⟨b', -⟩⟩
    · exact absurd a a'
    · exact C
    · omega
  -- what the class leaves, of what is wanted here
  have w36 : ∀ t, W118 V 36 t = if t = V 33 7 then V 33 1 else V 36 t := fun t => by
    unfold W118
    rw [up_c (by decide), up_p, cpy_c (by decide)]
  have w35 : ∀ j, W118 V 35 j = if 160 * V 33 7 ≤ j ∧ j < 160 * V 33 7 + V 33 1 then V 34 (j - 160 * V 33 7) else V 35 j := fun j => by
    unfold W118
    rw [up_c (by decide), up_c (by decide)]
    unfold cpy
    by_cases z : 160 * V 33 7 ≤ j ∧ j < 160 * V 33 7 + V 33 1
    · rw [if_pos z, if_pos ⟨rfl, z⟩, Int.zero_add]
    · rw [if_neg z, if_neg (fun w => z w.2)]
  have wx : ∀ (c : Nat) j, 40 ≤ c → W118 V c j = V c j := fun c j h => by
    unfold W118
    rw [up_c (by omega), up_c (by omega), cpy_c (by omega)]
  have v1 : (∀ j, V1 36 j = W118 V 36 j) ∧ (∀ j, V1 35 j = W118 V 35 j) ∧ (∀ (c : Nat) j, 40 ≤ c → V1 c j = V c j) ∧ ((V1 33 7 = V 33 7 + 1 ∨ V1 33 7 = V 33 7)) := by
    rcases c with ⟨F, -, fr⟩ | ⟨F, -, fr⟩
    · refine ⟨fun j => ?_, fun j => ?_, fun c j h => ?_, Or.inl ?_⟩
      · rw [fr 36 j (Or.inl (by decide)), up_c (by decide), up_c (by decide), up_c (by decide), up_c (by decide)]
      · rw [fr 35 j (Or.inl (by decide)), up_c (by decide), up_c (by decide), up_c (by decide), up_c (by decide)]
      · rw [fr c j (Or.inl (by omega)), up_c (by omega), up_c (by omega), up_c (by omega), up_c (by omega)]
        exact wx c j h
      · rw [fr 33 7 (Or.inr (by decide)), up_s]
    · refine ⟨fun j => fr 36 j (Or.inl (by decide)), fun j => fr 35 j (Or.inl (by decide)), fun c j h => (fr c j (Or.inl (by omega))).trans (wx c j h), Or.inr ?_⟩
      rw [fr 33 7 (Or.inr (by decide))]
      unfold W118
      rw [up_j (c' := 33) (by decide), up_c (by decide), cpy_c (by decide)]
  obtain ⟨v36, v35, v40, v7⟩ := v1
  -- and the reference
  have v2 : (∀ j, V2 36 j = V1 36 j) ∧ (∀ j, V2 35 j = V1 35 j) ∧ V2 33 7 = V1 33 7 := by
    rcases m with ⟨a', -⟩ | ⟨-, ⟨b', -, rfl⟩ | ⟨b', q', f', p', mf⟩⟩
    · exact absurd a a'
    · exact ⟨fun _ => rfl, fun _ => rfl, rfl⟩
    · rcases mf with ⟨-, -, M⟩ | ⟨-, -, M⟩
      · refine ⟨fun j => ?_, fun j => ?_, ?_⟩
        · rw [M 36 j (by decide) (by decide) (by decide) (by decide) (by decide) (fun e => absurd e (by decide)), up_c (by decide), up_c (by decide), up_c (by decide), up_c (by decide), up_c (by decide)]
        · rw [M 35 j (by decide) (by decide) (by decide) (by decide) (by decide) (fun e => absurd e (by decide)), up_c (by decide), up_c (by decide), up_c (by decide), up_c (by decide), up_c (by decide)]
        · rw [M 33 7 (by decide) (by decide) (by decide) (by decide) (by decide) (fun e => absurd e (by decide)), up_c (by decide), up_c (by decide), up_c (by decide), up_c (by decide), up_c (by decide)]
      · refine ⟨fun j => ?_, fun j => ?_, ?_⟩
        · rw [M 36 j (by decide) (by decide) (by decide) (by decide) (by decide) (fun e => absurd e (by decide)), up_c (by decide)]
        · rw [M 35 j (by decide) (by decide) (by decide) (by decide) (by decide) (fun e => absurd e (by decide)), up_c (by decide)]
        · rw [M 33 7 (by decide) (by decide) (by decide) (by decide) (by decide) (fun e => absurd e (by decide)), up_c (by decide)]
  obtain ⟨z36, z35, z7⟩ := v2
  have n55 : V1 72 55 = V 33 7 := (v40 72 55 (by decide)).trans j5.symm
  obtain ⟨m1, m2, m3, m4⟩ := mv
  rw [n55] at m1 m2 m3 m4
  intro t t0 t1
  rw [z7] at t1
  by_cases tn : t = V 33 7
  · -- the new text: it was made
    have ne : V2 72 55 ≠ V 33 7 := fun e => by
      rcases c with ⟨F, -, fr⟩ | ⟨F, -, fr⟩
      · rcases m with ⟨a', -⟩ | ⟨-, ⟨b', -⟩ | ⟨b', q', f', p', mf⟩⟩
        · exact absurd a a'
        · omega
        · have k1 : mT V1 = mT V := by
            funext p
            unfold mT
            rw [v40 72 54 (by decide), v40 115 p (by decide)]
          rw [k1, ← eT] at p'
          obtain ⟨rfl, rfl⟩ := pr_u p p'
          rw [v40 72 54 (by decide), ← j1] at mf
          rcases mf with ⟨-, -, M⟩ | ⟨F', -⟩
          · rw [M 72 55 (by decide) (by decide) (by decide) (by decide) (by decide) (fun _ => by decide), up_s, n55] at e
            omega
          · exact F' F
      · have e7 : V1 33 7 = V 33 7 := by
          rw [fr 33 7 (Or.inr (by decide))]
          unfold W118
          rw [up_j (c' := 33) (by decide), up_c (by decide), cpy_c (by decide)]
        omega
    obtain ⟨n90, ls, d, la⟩ := m4 ne
    subst tn
    have eo : oT V2 (V 33 7) = mT V1 := by
      have k1 : mT V1 = mT V := by
        funext p
        unfold mT
        rw [v40 72 54 (by decide), v40 115 p (by decide)]
      rw [k1, ← eT]
      funext p
      unfold oT tT
      rw [z36, v36, w36, if_pos rfl]
      by_cases z : 0 ≤ p ∧ p < V 33 1
      · rw [if_pos z, if_pos z, z35, v35, w35, if_pos ⟨by omega, by omega⟩]
        congr 1
        omega
      · rw [if_neg z, if_neg z]
    refine ⟨by rw [z36, v36, w36, if_pos rfl]; exact ⟨j2, j3⟩, n90, ls, by rw [eo]; exact d, la⟩
  · have lt7 : t < V 33 7 := by omega
    obtain ⟨c1, c2, ls, c3, c4⟩ := C t t0 lt7
    have e36 : V2 36 t = V 36 t := by rw [z36, v36, w36, if_neg tn]
    have eo : oT V2 t = oT V t := by
      funext p
      unfold oT
      rw [e36]
      by_cases z : 0 ≤ p ∧ p < V 36 t
      · rw [if_pos z, if_pos z, z35, v35, w35, if_neg (by omega)]
      · rw [if_neg z, if_neg z]
    have e119 : V2 119 t = V 119 t := (m1 t tn).trans (v40 119 t (by decide))
    refine ⟨by rw [e36]; exact c1, by rw [e119]; exact c2, ls, by rw [eo]; exact c3, lAtR_k ls 0 0 e119 (fun j u v => ?_) (fun j u => ?_) c4⟩
    · have x := m2 (90 * t + j) (by omega)
      exact ⟨x.1.trans (v40 120 _ (by decide)), x.2.trans (v40 121 _ (by decide))⟩
    · have x := m3 j (by omega)
      exact ⟨x.1.trans (v40 122 _ (by decide)), x.2.trans (v40 123 _ (by decide))⟩
theorem jx_24v {V V1 V2 : vS} {w y r1 r2 : Int} (J : JTxt V) (C : JCode V) (hd : V 1 0 = V 72 1) (b34 : ∀ j, 0 ≤ j → j < 160 → -128 ≤ V 34 j ∧ V 34 j ≤ 127) (b35 : ∀ j, 0 ≤ j → j < 2560 → -128 ≤ V 35 j ∧ V 35 j ≤ 127) (c : R168 V w y r1 V1) (m : R264 V1 w y r2 V2 ∧ R264v V1 V2) : (JTxt V2 ∧ JCode V2) ∧ r1 = r2 := by
  have z := jx_24 J hd c m.1
  exact ⟨⟨z.1, jc_24 J C c m.1 m.2 b34 b35⟩, z.2⟩


-- ===== frames of numbers; calls with what a run comes to =====
def fra (W : List (Nat × Nat)) (c : Nat) : Bool := match cRT[c]? with
  | some t => !(Nat.beq t.1 0) && Nat.blt c 146 && !(cWn W c 0)
  | none => false
def frf (W : List (Nat × Nat)) (c i : Nat) : Bool := match cRT[c]? with
  | some t => Nat.beq t.1 0 && Nat.blt c 146 && !(cWn W c i)
  | none => false
theorem vw_fa {W : List (Nat × Nat)} {σ σ1 : List Nat} {h h1 : aH} (H : dH σ h) (G : dG W σ h σ1 h1) {c : Nat} (k : fra W c = true) (j : Int) : vw h1 c j = vw h c j := by
  unfold fra at k
  split at k
  · rename_i t e
    simp only [Bool.and_eq_true, Bool.not_eq_true', Nat.blt_eq] at k
    obtain ⟨⟨k1, k2⟩, k3⟩ := k
    exact vw_dG H G k2 e j ⟨fun z => (by rw [z] at k1; cases k1), fun _ => k3⟩
  · cases k
theorem vw_ff {W : List (Nat × Nat)} {σ σ1 : List Nat} {h h1 : aH} (H : dH σ h) (G : dG W σ h σ1 h1) {c i : Nat} (k : frf W c i = true) : vw h1 c (i : Nat) = vw h c (i : Nat) := by
  unfold frf at k
  split at k
  · rename_i t e
    simp only [Bool.and_eq_true, Bool.not_eq_true', Nat.blt_eq] at k
    obtain ⟨⟨k1, k2⟩, k3⟩ := k
    exact vw_dG H G k2 e (i : Nat) ⟨fun _ => by rw [Int.toNat_natCast]; exact k3, fun z => absurd (Nat.eq_of_beq_eq_true k1) z⟩
  · cases k
def ag : List (Nat × Option Nat) → vS → vS → Prop
  | [], _, _ => True
  | (c, none) :: r, V, V' => (∀ j, V' c j = V c j) ∧ ag r V V'
  | (c, some i) :: r, V, V' => V' c (i : Nat) = V c (i : Nat) ∧ ag r V V'
def frL (W : List (Nat × Nat)) : List (Nat × Option Nat) → Bool
  | [] => true
  | (c, none) :: r => fra W c && frL W r
  | (c, some i) :: r => frf W c i && frL W r
theorem ag_dG {W : List (Nat × Nat)} {σ σ1 : List Nat} {h h1 : aH} (H : dH σ h) (G : dG W σ h σ1 h1) : ∀ (L : List (Nat × Option Nat)), frL W L = true → ag L (vw h) (vw h1)
  | [], _ => trivial
  | (c, none) :: r, k => by
    unfold frL at k
    rw [Bool.and_eq_true] at k
    exact ⟨fun j => vw_fa H G k.1 j, ag_dG H G r k.2⟩
  | (c, some i) :: r, k => by
    unfold frL at k
    rw [Bool.and_eq_true] at k
    exact ⟨vw_ff H G k.1, ag_dG H G r k.2⟩
def LRing : List (Nat × Option Nat) := [(13, some 2), (72, some 11), (14, none), (81, none), (15, none), (82, none)]
def LBody : List (Nat × Option Nat) := [(1, some 1), (72, some 2), (2, none), (73, none), (4, none), (76, none), (5, none), (77, none), (7, none), (75, none), (3, none), (74, none), (78, none), (79, none)]
theorem JRing_ag {V V' : vS} (J : JRing V) (A : ag LRing V V') : JRing V' := by
  obtain ⟨a1, a2, a3, a4, a5, a6, -⟩ := A
  have a1 : V' 13 2 = V 13 2 := a1
  have a2 : V' 72 11 = V 72 11 := a2
  unfold JRing
  simp only [a1, a2, a3, a4, a5, a6]
  exact J
theorem JBody_ag {V V' : vS} (J : JBody V) (A : ag LBody V V') : JBody V' := by
  obtain ⟨a1, a2, a3, a4, a5, a6, a7, a8, a9, a10, a11, a12, a13, a14, -⟩ := A
  have a1 : V' 1 1 = V 1 1 := a1
  have a2 : V' 72 2 = V 72 2 := a2
  unfold JBody JMeas
  simp only [a1, a2, a3, a4, a5, a6, a7, a8, a9, a10, a11, a12, a13, a14]
  exact J
theorem JRing_dG {W : List (Nat × Nat)} {σ σ1 : List Nat} {h h1 : aH} (J : JRing (vw h)) (I : dI σ h) (G : dG W σ h σ1 h1) (k : frL W LRing = true) : JRing (vw h1) := JRing_ag J (ag_dG I.1 G _ k)
theorem JBody_dG {W : List (Nat × Nat)} {σ σ1 : List Nat} {h h1 : aH} (J : JBody (vw h)) (I : dI σ h) (G : dG W σ h σ1 h1) (k : frL W LBody = true) : JBody (vw h1) := JBody_ag J (ag_dG I.1 G _ k)
theorem JP_day {h : aH} (J : JP h) : vw h 1 0 = vw h 72 1 := by
  obtain ⟨fs, f2, t, n, p, c1, a1, -, -, -, c2, a5⟩ := J
  exact (vw_o c1 a1).trans (vw_o c2 a5).symm
theorem vz {c n : Nat} (e : zH0.1[c]? = some (.inl (0, n, .inl (fun _ => 0)))) (j : Int) : vw zH0 c j = 0 := by
  unfold vw
  split
  · rfl
  · rw [e]; rfl
theorem vzf {c ci i : Nat} {fs : List Value} {x : Int32} (e : zH0.1[c]? = some (.inr (ci, fs))) (ef : fs[i]? = some (.int x)) : vw zH0 c (i : Nat) = x.toInt := vw_o e ef
theorem zJRing0 : JRing (vw zH0) := by
  have e1 : vw zH0 13 2 = 0 := vzf (i := 2) (x := 0) zh13 rfl
  have e2 : vw zH0 72 11 = 0 := vzf (i := 11) (x := 0) zh72 rfl
  refine ⟨by rw [e1, e2], fun j => by rw [vz zh14, vz zh81], fun j => by rw [vz zh15, vz zh82], by rw [e1]; decide, by rw [e1]; decide⟩
theorem zJBody0 : JBody (vw zH0) := by
  have e1 : vw zH0 1 1 = 0 := vzf (i := 1) (x := 0) zh1 rfl
  have e2 : vw zH0 72 2 = 0 := vzf (i := 2) (x := 0) zh72 rfl
  refine ⟨by rw [e1, e2], fun j => by rw [vz zh2, vz zh73], fun j => by rw [vz zh4, vz zh76], fun j => by rw [vz zh5, vz zh77], fun j => by rw [vz zh7, vz zh75], by rw [e1]; decide, by rw [e1]; decide, fun j => by rw [vz zh5, vz zh7]; decide, fun j h0 h1 => by rw [e1] at h1; omega⟩
section WQ
variable {X : aX} {D : Nat} {M : aM} {Q : Option Value → aH → Prop} {pc pc' : Nat} {l l' : aL} {st r : List Value} {h : aH}
theorem wp_goodQ {C : cC} {Y : aM} (G : dGood X C) (hY : zmt[C.1]? = some Y) {σ : List Nat} (I : dI σ h) {ρ : List Int} {l1 : aL} (K : dK σ h ρ [] C.2.2.2.1.2.2) (L : dL ρ [] C.2.2.2.1.1 l1) {Q' : Option Value → aH → Prop} (P : ∀ n, Pt n X Y 0 l1 [] h Q')
    (hs : ∀ (n d : Nat) (v : Option Value) (h1 : aH), arun X n d Y 0 l1 [] h = some (v, h1) → arun X (n + 1) (d + 1) M pc l st h = arun X n (d + 1) M pc' l' (v.toList ++ r) h1) (hd : C.2.1 + 1 ≤ D)
    (k : ∀ (v : Option Value) (h1 : aH) (σ1 : List Nat), dI σ1 h1 → dG C.2.2.1 σ h σ1 h1 → (∃ P, P ∈ C.2.2.2.2.1 ∧ dPost P σ1 h1 v) → Q' v h1 → Wp X D M Q pc' l' (v.toList ++ r) h1) : Wp X D M Q pc l st h := by
  obtain ⟨N, v, h1, σ1, e1, e2, e3, e4⟩ := G Y hY l1 h σ ρ [] I K L
  exact wp_call (fun n d e => hs n d v h1 e) hd e1 (k v h1 σ1 e2 e3 e4 (P (0 + N) (0 + N) (Nat.le_refl _) (0 + C.2.1) v h1 (e1 0 0)))
end WQ

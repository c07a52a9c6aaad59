-- ===== the relation of the two sides =====

def JR (h : aH) : Prop := JF 63 3 1 72 12 52 h ∧ JA 22 91 4 h ∧ JA 57 137 8 h ∧ JA 64 112 48 h
def jrW (W : List (Nat × Nat)) : Bool := !(cWn W 63 1) && !(cWn W 72 52) && !(cWn W 22 0) && !(cWn W 91 0) && !(cWn W 57 0) && !(cWn W 137 0) && !(cWn W 64 0) && !(cWn W 112 0)
theorem JR_dG {σ σ' : List Nat} {h h' : aH} {W : List (Nat × Nat)} (J : JR h) (I : dI σ h) (G : dG W σ h σ' h') (k : jrW W = true) : JR h' := by
  unfold jrW at k
  simp only [Bool.and_eq_true, Bool.not_eq_true'] at k
  obtain ⟨⟨⟨⟨⟨⟨⟨k1, k2⟩, k3⟩, k4⟩, k5⟩, k6⟩, k9⟩, k10⟩ := k
  refine ⟨JF_dG J.1 I G ?_, JA_dG J.2.1 I G ?_, JA_dG J.2.2.1 I G ?_, JA_dG J.2.2.2 I G ?_⟩
  · rw [k1, k2]; decide
  · rw [k3, k4]; decide
  · rw [k5, k6]; decide
  · rw [k9, k10]; decide
def JQ (h : aH) : Prop := JP h ∧ JR h
theorem JQ_dG {σ σ' : List Nat} {h h' : aH} {W : List (Nat × Nat)} (J : JQ h) (I : dI σ h) (G : dG W σ h σ' h') (k : ((!(cWn W 1 0) && !(cWn W 1 1) && !(cWn W 1 4) && !(cWn W 72 1)) && jrW W) = true) : JQ h' :=
  ⟨JP_dG J.1 I G ((Bool.and_eq_true _ _).mp k).1, JR_dG J.2 I G ((Bool.and_eq_true _ _).mp k).2⟩
theorem zJR0 : JR zH0 := by
  refine ⟨⟨_, _, -1, zh63, rfl, zh72, rfl⟩, ⟨_, _, zh22, zh91, ?_⟩, ⟨_, _, zh57, zh137, ?_⟩, ⟨_, _, zh64, zh112, ?_⟩⟩
  · decide +kernel
  · decide +kernel
  · decide +kernel

-- ===== the relation of the two sides, with numbers =====
def JX (h : aH) : Prop := JQ h ∧ JRing (vw h) ∧ JBody (vw h) ∧ JShelf (vw h)
theorem zJShelf0 : JShelf (vw zH0) := by
  intro s h0 h1
  refine Or.inl ⟨(vw_a zh69 h0).trans ?_, (vw_a zh142 h0).trans ?_⟩
  · show ((-1 : Int32)).toInt = -1
    decide
  · show ((-1 : Int32)).toInt = -1
    decide

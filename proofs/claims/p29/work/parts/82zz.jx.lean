-- ===== the relation of the two sides, with numbers =====
def JX (h : aH) : Prop := JQ h ∧ JRing (vw h) ∧ JBody (vw h) ∧ JHand (vw h) ∧ JClm (vw h) ∧ JShelf (vw h) ∧ JMaj (vw h) ∧ JOut (vw h) ∧ JAct (vw h) ∧ JRows (vw h) ∧ JPlot (vw h) ∧ JSeen (vw h) ∧ JByt (vw h) ∧ JCol (vw h) ∧ JTxt (vw h) ∧ JOrd (vw h) ∧ JDay (vw h) ∧ JCf (vw h) ∧ JR24 (vw h) ∧ J30 (vw h) ∧ JOut2 (vw h) ∧ JCtl (vw h) ∧ JGone (vw h) ∧ JSea (vw h) ∧ JRk (vw h) ∧ JCnt (vw h) ∧ JGiv (vw h) ∧ JPer (vw h) ∧ JCode (vw h) ∧ JSet (vw h)
theorem zJShelf0 : JShelf (vw zH0) := by
  intro s h0 h1
  refine Or.inl ⟨(vw_a zh69 h0).trans ?_, (vw_a zh142 h0).trans ?_⟩
  · show ((-1 : Int32)).toInt = -1
    decide
  · show ((-1 : Int32)).toInt = -1
    decide

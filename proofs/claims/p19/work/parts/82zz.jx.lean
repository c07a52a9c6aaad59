-- ===== the relation of the two sides, with numbers =====
def JX (h : aH) : Prop := JQ h ∧ JRing (vw h) ∧ JBody (vw h) ∧ JHand (vw h) ∧ JClm (vw h) ∧ JOut (vw h) ∧ JRows (vw h) ∧ JOrd (vw h) ∧ JDay (vw h) ∧ JCf (vw h) ∧ JR24 (vw h) ∧ J30 (vw h) ∧ JOut2 (vw h) ∧ JCtl (vw h) ∧ JGone (vw h) ∧ JSea (vw h) ∧ JRk (vw h)

-- ===== the relation of the two sides, with numbers =====
def JX (h : aH) : Prop := JQ h ∧ JRing (vw h) ∧ JBody (vw h) ∧ JAct (vw h)

-- ===== tenths =====
theorem az_t {x : Int32} : (0 ≤ x.toInt → (x / 10).toInt = x.toInt / 10 ∧ (x - x / 10 * 10).toInt = x.toInt % 10) := by
  intro h
  obtain ⟨j, hj, rfl⟩ := nI_of (x := x) (by rw [Int32.lt_iff_toInt_lt]; have : (0 : Int32).toInt = 0 := rfl; omega)
  rw [show (10 : Int32) = nI 10 from rfl, pk_rem hj (by decide) (by decide), pk_div hj (by decide) (by decide), nI_toInt (n := j / 10) (by omega), nI_toInt (n := j % 10) (by omega), nI_toInt (n := j) hj]
  omega

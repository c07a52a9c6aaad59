-- ===== cells behind a store; switches =====
theorem gs_eq {σ : List aC} {i : Nat} {c c' : aC} (h : σ[i]? = some c) : (σ.set i c')[i]? = some c' := by
  have := (List.getElem?_eq_some_iff.mp h).1
  simp [this]
theorem gs_ne {σ : List aC} {i j : Nat} {c c' : aC} (h : σ[j]? = some c) (hn : i ≠ j) : (σ.set i c')[j]? = some c := by
  rw [List.getElem?_set, if_neg hn]
  exact h
theorem gs_ap {σ : List aC} {j : Nat} {c c' : aC} (h : σ[j]? = some c) : (σ ++ [c'])[j]? = some c := by
  rw [List.getElem?_append_left (List.getElem?_eq_some_iff.mp h).1]
  exact h
theorem gs_la {σ : List aC} {j : Nat} {c : aC} (h : σ.length = j) : (σ ++ [c])[j]? = some c := by
  subst h
  simp
theorem gs_le {σ : List aC} {j : Nat} {c : aC} (h : σ.length = j) : (σ ++ [c]).length = j + 1 := by
  subst h
  simp
theorem gs_ls {σ : List aC} {i j : Nat} {c : aC} (h : σ.length = j) : (σ.set i c).length = j := by
  rw [List.length_set]
  exact h
theorem asw_t {x : Int32} {k : Int → Option aR} {d lo o : Int} {r : List Int} (h : x = Int32.ofInt lo) : asw x k d lo (o :: r) = k o := by
  unfold asw
  rw [if_pos h]
theorem asw_f {x : Int32} {k : Int → Option aR} {d lo o : Int} {r : List Int} (h : ¬ x = Int32.ofInt lo) : asw x k d lo (o :: r) = asw x k d (lo + 1) r := by
  conv => lhs; unfold asw
  rw [if_neg h]
theorem asw_d {x : Int32} {k : Int → Option aR} {d lo : Int} : asw x k d lo [] = k d := rfl
theorem alw_t {x : Int32} {k : Int → Option aR} {d : Int} {o : Int × Int} {r : List (Int × Int)} (h : x = Int32.ofInt o.1) : alw x k d (o :: r) = k o.2 := by
  unfold alw
  rw [if_pos h]
theorem alw_f {x : Int32} {k : Int → Option aR} {d : Int} {o : Int × Int} {r : List (Int × Int)} (h : ¬ x = Int32.ofInt o.1) : alw x k d (o :: r) = alw x k d r := by
  conv => lhs; unfold alw
  rw [if_neg h]
theorem alw_d {x : Int32} {k : Int → Option aR} {d : Int} : alw x k d [] = k d := rfl
theorem ix_col {x y : Int32} (h1 : vp_in x 8) (h2 : vp_in y 6) : vp_in ((x * 6) + y) 48 := by
  obtain ⟨a, ha, rfl⟩ := vp_in_of h1 (by decide)
  obtain ⟨b, hb, rfl⟩ := vp_in_of h2 (by decide)
  rw [show (6 : Int32) = nI 6 from rfl, pk_mul, nI_add]
  exact vp_in_nI (by omega) (by decide)
theorem ix_col2 {x y : Int32} (h1 : vp_in x 8) (h2 : vp_in y 6) : vp_in ((6 * x) + y) 48 := by
  obtain ⟨a, ha, rfl⟩ := vp_in_of h1 (by decide)
  obtain ⟨b, hb, rfl⟩ := vp_in_of h2 (by decide)
  rw [show (6 : Int32) = nI 6 from rfl, pk_mul, nI_add]
  exact vp_in_nI (by omega) (by decide)
theorem lg_self (x : Int64) : lg_cmp x x = 0 := by simp [lg_cmp]
theorem az_d {x : Int32} (h : 0 ≤ x.toInt) : 0 ≤ (x / 100).toInt ∧ 0 ≤ (x - x / 100 * 100).toInt := by
  obtain ⟨j, hj, rfl⟩ := nI_of (x := x) (by rw [Int32.lt_iff_toInt_lt]; have : (0 : Int32).toInt = 0 := rfl; omega)
  rw [show (100 : Int32) = nI 100 from rfl, pk_rem hj (by decide) (by decide), pk_div hj (by decide) (by decide), nI_toInt (by omega), nI_toInt (by omega)]
  omega
theorem hss {σ : List aC} {k u : Nat} {c1 c2 : aC} : ((((σ.set k c1, u) : aH).1.set k c2, ((σ.set k c1, u) : aH).2) : aH) = (σ.set k c2, u) := by
  simp only [List.set_set]

-- ===== by hand: a field written; counts; small callees of the reference =====
theorem hI_f {σ : List Nat} {h : aH} (I : dI σ h) {W : List (Nat × Nat)} {r ci b : Nat} {lo hi : Int} {fs : List Value} {x : Int32} (c : h.1[r]? = some (.inr (ci, fs))) (k : tkI r b lo hi = true) (hJ : cJs r b = false) (hW : cWn W r b = true) (h1 : lo ≤ x.toInt) (h2 : x.toInt ≤ hi) :
    Nat.blt b fs.length = true ∧ dI σ (h.1.set r (.inr (ci, fs.set b (.int x))), h.2) ∧ dG W σ h σ (h.1.set r (.inr (ci, fs.set b (.int x))), h.2) := by
  unfold tkI at k
  split at k
  · rename_i t e
    rw [Bool.and_eq_true, Bool.and_eq_true, Nat.blt_eq] at k
    obtain ⟨⟨k1, k2⟩, k3⟩ := k
    obtain ⟨fs', a, al, a3⟩ := dI_o I k2 e (Nat.eq_of_beq_eq_true k1)
    rw [c] at a
    cases a
    split at k3
    · rename_i ty ety
      simp only [Bool.and_eq_true, ceI_i] at k3
      have hv : dT σ ty (.int x) := by
        unfold dT
        rw [Nat.eq_of_beq_eq_true k3.1.1]
        exact ⟨x, rfl, by omega, by omega⟩
      have hl : b < fs.length := by rw [al]; exact (List.getElem?_eq_some_iff.mp ety).1
      exact ⟨by rw [Nat.blt_eq]; exact hl, dI_obj I (W := W) (I.1.2.2.2 r k2) e (Nat.eq_of_beq_eq_true k1) c ety hv hJ hW⟩
    · cases k3
  · cases k
/-- how many of the first n aren't 0 -/
def cntN (g : Nat → Int32) : Nat → Nat
  | 0 => 0
  | n + 1 => cntN g n + (if (g n).toInt = 0 then 0 else 1)
theorem cntN_le (g : Nat → Int32) : ∀ n, cntN g n ≤ n
  | 0 => Nat.le_refl _
  | n + 1 => by
    have := cntN_le g n
    show cntN g n + (if (g n).toInt = 0 then 0 else 1) ≤ n + 1
    split <;> omega
theorem cntN_congr {g g' : Nat → Int32} : ∀ n, (∀ j, j < n → g j = g' j) → cntN g n = cntN g' n
  | 0, _ => rfl
  | n + 1, h => by
    show cntN g n + (if (g n).toInt = 0 then 0 else 1) = cntN g' n + (if (g' n).toInt = 0 then 0 else 1)
    rw [cntN_congr n (fun j hj => h j (by omega)), h n (by omega)]
theorem cntN_mono (g : Nat → Int32) : ∀ n m, n ≤ m → cntN g n ≤ cntN g m
  | n, 0, h => by rw [Nat.le_zero.mp h]; exact Nat.le_refl _
  | n, m + 1, h => by
    rcases Nat.lt_or_ge m n with q | q
    · rw [show n = m + 1 by omega]; exact Nat.le_refl _
    · have := cntN_mono g n m q
      show cntN g n ≤ cntN g m + (if (g m).toInt = 0 then 0 else 1)
      omega
/-- one of them made 0 -/
theorem cntN_upd (g : Nat → Int32) (k : Nat) (x : Int32) (hx : x.toInt = 0) (hk : (g k).toInt ≠ 0) : ∀ n, k < n → cntN (upd g k x) n + 1 = cntN g n
  | 0, h => by omega
  | n + 1, h => by
    show cntN (upd g k x) n + (if (upd g k x n).toInt = 0 then 0 else 1) + 1 = cntN g n + (if (g n).toInt = 0 then 0 else 1)
    by_cases e : k = n
    · subst e
      have e1 : upd g k x k = x := by unfold upd; rw [if_pos rfl]
      rw [e1, if_pos hx, if_neg hk, cntN_congr k (g := upd g k x) (g' := g) (fun j hj => by unfold upd; rw [if_neg (by omega)])]
    · have e1 : upd g k x n = g n := by unfold upd; rw [if_neg (fun q => e q.symm)]
      have := cntN_upd g k x hx hk n (by omega)
      rw [e1]
      omega

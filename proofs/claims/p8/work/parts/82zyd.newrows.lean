-- ===== rows for cells made late =====
def nwI (h : aH) (q t N : Nat) (h' : aH) : Prop := q = h.1.length ∧ h.1[q]? = none ∧ (∀ c, c ≠ q → h'.1[c]? = h.1[c]?) ∧ ∃ a, h'.1[q]? = some (.inl (t, N, a)) ∧ ∀ j, vA a j = 0
theorem app_l {h : aH} {c : Nat} {x y : aC} (e : h.1[c]? = some x) : (h.1 ++ [y])[c]? = some x := by
  obtain ⟨hc, -⟩ := List.getElem?_eq_some_iff.mp e
  rw [List.getElem?_append_left hc]
  exact e
theorem app_r {h : aH} {c : Nat} {y : aC} (hc : c ≠ h.1.length) : (h.1 ++ [y])[c]? = h.1[c]? := by
  by_cases q : c < h.1.length
  · rw [List.getElem?_append_left q]
  · have e1 : (h.1 ++ [y]).length ≤ c := by
      rw [List.length_append]
      simp only [List.length_cons, List.length_nil]
      omega
    have e2 : h.1.length ≤ c := by omega
    rw [List.getElem?_eq_none e1, List.getElem?_eq_none e2]
theorem app_e {h : aH} {y : aC} : (h.1 ++ [y])[h.1.length]? = some y := by
  rw [List.getElem?_append_right (Nat.le_refl _), Nat.sub_self]
  rfl
theorem wS_app {h : aH} {t n s : Nat} {a : (Nat → Int32) ⊕ (Nat → Int64) ⊕ (Nat → UInt32) ⊕ (Nat → UInt64) ⊕ (Nat → Option Nat)} (S : wS h) : wS (h.1 ++ [.inl (t, n, a)], s) := by
  obtain ⟨s1, s2, s3⟩ := S
  refine ⟨fun q ci fs i v e1 e2 => ?_, fun c i q e => ?_, fun c t' n' e => ?_⟩
  · by_cases z : q = h.1.length
    · subst z
      rw [show (h.1 ++ [Sum.inl (t, n, a)], s).1[h.1.length]? = some (Sum.inl (t, n, a)) from app_e] at e1
      cases e1
    · rw [show (h.1 ++ [Sum.inl (t, n, a)], s).1[q]? = h.1[q]? from app_r z] at e1
      exact s1 q ci fs i v e1 e2
  · obtain ⟨ci, fs, e1, e2⟩ := s2 c i q e
    exact ⟨ci, fs, app_l e1, e2⟩
  · have := s3 c t' n' e
    unfold tyA at this ⊢
    split at this
    · rename_i e1
      rw [show (h.1 ++ [Sum.inl (t, n, a)], s).1[c]? = _ from app_l e1]
      exact this
    · cases this
section PT2
variable {n : Nat} {X : aX} {M : aM} {Q : Option Value → aH → Prop} {pc len a b : Nat} {l : aL} {st r : List Value} {h : aH} {A B : Int}
theorem pt_newa {t : ArrayType} {x : Int32} (hf : aF pc M.2.2.2.2.2.2.2 = some (pc, (.newarray t), len, 0, b)) (S : wS h) (ha : x.toInt = A) (k : ∀ (q : Nat) (h' : aH), wS h' → 0 ≤ A → nwI h q 0 A.toNat h' → Pt n X M (pc + 2) l (.ref q :: r) h' Q) : Pt (n + 1) X M pc l (.int x :: r) h Q := pt_s fun m hm d v h2 e => by
  rw [arun_p hf rfl] at e
  simp only [aX1, tI] at e
  split at e
  · cases e
  · rename_i hx
    have x0 : 0 ≤ x.toInt := by
      rcases Int.lt_or_le x.toInt 0 with z | z
      · exact absurd (Or.inl (Int32.lt_iff_toInt_lt.mpr (by rw [show (0 : Int32).toInt = 0 from rfl]; exact z))) hx
      · exact z
    rw [← Int32.toNat_toInt] at e
    subst ha
    exact k _ _ (wS_app S) x0 ⟨rfl, List.getElem?_eq_none (Nat.le_refl _), fun c hc => app_r hc, _, app_e, fun j => rfl⟩ m hm d v h2 e
theorem pt_aast {o q N : Nat} {N' : Int} {j : Int32} (hf : aF pc M.2.2.2.2.2.2.2 = some (pc, .aastore, len, a, b)) (S : wS h) (tk : tkL o 5 N = true) (ha : j.toInt = A) (k : ∀ h', wS h' → 0 ≤ A → A < N' → vw h' = up (vw h) o A (q : Int) → (∀ c, c ≠ o → h'.1[c]? = h.1[c]?) → Pt n X M (pc + 1) l r h' Q) (hN : ((N : Nat) : Int) = N' := by rfl) : Pt (n + 1) X M pc l (.ref q :: .int j :: .ref o :: r) h Q := pt_s fun m hm d v h2 e => by
  rw [arun_p hf rfl] at e
  simp only [aX1, aarR] at e
  split at e
  · rename_i t0 N0 g hc
    obtain ⟨rfl, rfl⟩ := tk_n S tk hc
    simp only [Nat.reduceBEq, show Nat.beq 5 4 = false from rfl, show Nat.beq 5 5 = true from rfl, cond_false, cond_true, aarI] at e
    split at e
    · rename_i t1 N1 g1 hc1
      cases ht : Nat.beq t1 0 with
      | false => simp only [ht, cond_false] at e; cases e
      | true =>
        simp only [ht, cond_true] at e
        split at e
        · cases e
        · rename_i hj
          obtain ⟨q1, q2⟩ := ix_in hj
          rw [← Int32.toNat_toInt] at e
          subst ha
          refine k _ (wS_arr S hc) (by omega) (by omega) (vw_arr hc (by omega) (fun i => ?_)) (fun c hcc => ?_) m hm d v h2 e
          · unfold vA va_up
            dsimp only
            by_cases z : i = j.toInt.toNat
            · rw [if_pos z, if_pos z]
            · rw [if_neg z, if_neg z]
          · exact List.getElem?_set_ne (Ne.symm hcc)
    · cases e
  · cases e
end PT2

-- ===== one step; what it makes only grows =====
theorem tI_some {st : List Value} {f : Int32 → List Value → Option aR} {res : aR} (h : tI st f = some res) : ∃ x r, st = .int x :: r ∧ f x r = some res := by
  unfold tI at h
  split at h
  · exact ⟨_, _, rfl, h⟩
  · cases h
theorem tII_some {st : List Value} {f : Int32 → Int32 → List Value → Option aR} {res : aR} (h : tII st f = some res) : ∃ x y r, st = .int y :: .int x :: r ∧ f x y r = some res := by
  unfold tII at h
  split at h
  · exact ⟨_, _, _, rfl, h⟩
  · cases h
theorem tJ_some {st : List Value} {f : Int64 → List Value → Option aR} {res : aR} (h : tJ st f = some res) : ∃ x r, st = .long x :: r ∧ f x r = some res := by
  unfold tJ at h
  split at h
  · exact ⟨_, _, rfl, h⟩
  · cases h
theorem tJJ_some {st : List Value} {f : Int64 → Int64 → List Value → Option aR} {res : aR} (h : tJJ st f = some res) : ∃ x y r, st = .long y :: .long x :: r ∧ f x y r = some res := by
  unfold tJJ at h
  split at h
  · exact ⟨_, _, _, rfl, h⟩
  · cases h
theorem tJI_some {st : List Value} {f : Int64 → Int32 → List Value → Option aR} {res : aR} (h : tJI st f = some res) : ∃ x y r, st = .int y :: .long x :: r ∧ f x y r = some res := by
  unfold tJI at h
  split at h
  · exact ⟨_, _, _, rfl, h⟩
  · cases h
theorem aobj_some {h : aH} {o a : Nat} {f : List Value → Option aR} {res : aR} (e : aobj h o a f = some res) : ∃ fs, h.1[o]? = some (.inr (a, fs)) ∧ f fs = some res := by
  unfold aobj at e
  split at e
  · rename_i ci fs hg
    cases hb : Nat.beq ci a with
    | false => rw [hb] at e; cases e
    | true =>
      rw [hb] at e
      have := Nat.eq_of_beq_eq_true hb
      subst this
      exact ⟨fs, hg, e⟩
  · cases e
theorem aarI_some {h : aH} {o : Nat} {f : Nat → Nat → (Nat → Int32) → Option aR} {res : aR} (e : aarI h o f = some res) : ∃ t n g, h.1[o]? = some (.inl (t, n, .inl g)) ∧ f t n g = some res := by
  unfold aarI at e
  split at e
  · exact ⟨_, _, _, by assumption, e⟩
  · cases e
theorem aarJ_some {h : aH} {o : Nat} {f : Nat → (Nat → Int64) → Option aR} {res : aR} (e : aarJ h o f = some res) : ∃ n g, h.1[o]? = some (.inl (1, n, .inr (.inl g))) ∧ f n g = some res := by
  unfold aarJ at e
  split at e
  · exact ⟨_, _, by assumption, e⟩
  · cases e
theorem aarR_some {h : aH} {o : Nat} {f : Nat → Nat → (Nat → Option Nat) → Option aR} {res : aR} (e : aarR h o f = some res) : ∃ t n g, h.1[o]? = some (.inl (t, n, .inr (.inr (.inr (.inr g))))) ∧ f t n g = some res := by
  unfold aarR at e
  split at e
  · exact ⟨_, _, _, by assumption, e⟩
  · cases e
theorem abif {b : Bool} {x : Option aR} {res : aR} (h : (bif b then x else none) = some res) : b = true ∧ x = some res := by
  cases b with
  | false => cases h
  | true => exact ⟨rfl, h⟩
theorem anite {c : Prop} [Decidable c] {x : Option aR} {res : aR} (h : (if c then none else x) = some res) : ¬ c ∧ x = some res := by
  by_cases q : c
  · rw [if_pos q] at h; cases h
  · rw [if_neg q] at h; exact ⟨q, h⟩
theorem aite {c : Prop} [Decidable c] {x y : Option aR} {res : aR} (h : (if c then x else y) = some res) : (c ∧ x = some res) ∨ (¬ c ∧ y = some res) := by
  by_cases q : c
  · rw [if_pos q] at h; exact Or.inl ⟨q, h⟩
  · rw [if_neg q] at h; exact Or.inr ⟨q, h⟩
theorem asw_some {x : Int32} {k : Int → Option aR} {d : Int} {res : aR} : ∀ (l : List Int) (lo : Int), -2147483648 ≤ lo → lo + l.length ≤ 2147483648 → asw x k d lo l = some res →
    (∃ (i : Nat) (o : Int), l[i]? = some o ∧ x.toInt = lo + i ∧ k o = some res) ∨ ((x.toInt < lo ∨ lo + l.length ≤ x.toInt) ∧ k d = some res) := by
  intro l
  induction l with
  | nil =>
    intro lo h1 h2 h
    refine Or.inr ⟨?_, h⟩
    simp only [List.length_nil]
    omega
  | cons o r ih =>
    intro lo h1 h2 h
    simp only [List.length_cons] at h2
    unfold asw at h
    rcases aite h with ⟨q, h⟩ | ⟨q, h⟩
    · refine Or.inl ⟨0, o, rfl, ?_, h⟩
      rw [q, Int32.toInt_ofInt_of_le (by omega) (by omega)]
      simp
    · have hx : x.toInt ≠ lo := by
        intro e
        apply q
        apply Int32.toInt_inj.mp
        rw [Int32.toInt_ofInt_of_le (by omega) (by omega)]
        exact e
      rcases ih (lo + 1) (by omega) (by omega) h with ⟨i, o', g1, g2, g3⟩ | ⟨g1, g2⟩
      · exact Or.inl ⟨i + 1, o', by simpa using g1, by omega, g3⟩
      · refine Or.inr ⟨?_, g2⟩
        simp only [List.length_cons]
        omega
theorem alw_some {x : Int32} {k : Int → Option aR} {d : Int} {res : aR} : ∀ (l : List (Int × Int)), (∀ q ∈ l, -2147483648 ≤ q.1 ∧ q.1 < 2147483648) → alw x k d l = some res → k (Op.lookupswitch.offset l d x.toInt) = some res := by
  intro l
  induction l with
  | nil => intro _ h; exact h
  | cons q r ih =>
    intro hl h
    obtain ⟨a, o⟩ := q
    obtain ⟨l1, l2⟩ := hl (a, o) List.mem_cons_self
    dsimp only at l1 l2
    unfold alw at h
    rw [Op.lookupswitch.offset_cons]
    rcases aite h with ⟨q, h⟩ | ⟨q, h⟩
    · rw [if_pos (by rw [q, Int32.toInt_ofInt_of_le (by omega) (by omega)])]
      exact h
    · rw [if_neg]
      · exact ih (fun q hq => hl q (List.mem_cons_of_mem _ hq)) h
      · intro e
        apply q
        apply Int32.toInt_inj.mp
        rw [Int32.toInt_ofInt_of_le (by omega) (by omega)]
        exact e.symm
theorem asw_any {x : Int32} {k : Int → Option aR} {d : Int} {res : aR} : ∀ (l : List Int) (lo : Int), asw x k d lo l = some res → ∃ o, k o = some res := by
  intro l
  induction l with
  | nil => intro lo h; exact ⟨d, h⟩
  | cons o r ih =>
    intro lo h
    unfold asw at h
    rcases aite h with ⟨q, h⟩ | ⟨q, h⟩
    · exact ⟨o, h⟩
    · exact ih _ h
theorem alw_any {x : Int32} {k : Int → Option aR} {d : Int} {res : aR} : ∀ (l : List (Int × Int)), alw x k d l = some res → ∃ o, k o = some res := by
  intro l
  induction l with
  | nil => intro h; exact ⟨d, h⟩
  | cons o r ih =>
    intro h
    unfold alw at h
    rcases aite h with ⟨q, h⟩ | ⟨q, h⟩
    · exact ⟨o.2, h⟩
    · exact ih h
set_option maxHeartbeats 4000000 in
/-- whatever the instruction, it goes on, with no fewer cells -/
theorem aX1_goes {X : aX} {own kind : Nat} {k : Nat → aL → List Value → aH → Option aR} {i : aI} {L : aL} {st : List Value} {h : aH} {res : aR} (he : aX1 X own kind k i L st h = some res) :
    ∃ pc' L' st' h', k pc' L' st' h' = some res ∧ h.1.length ≤ h'.1.length ∧ h.2 ≤ h'.2 := by
  obtain ⟨pc, ins, len, a, b⟩ := i
  have nz : ∀ {P : Prop} {o : Option aR}, o = none → o = some res → P := fun h1 h2 => by rw [h1] at h2; cases h2
  cases ins with
  | tableswitch d lo hi offs =>
    obtain ⟨x, r, rfl, he⟩ := tI_some he
    obtain ⟨o, ho⟩ := asw_any _ _ he
    exact ⟨_, _, _, _, ho, Nat.le_refl _, Nat.le_refl _⟩
  | lookupswitch d ps =>
    obtain ⟨x, r, rfl, he⟩ := tI_some he
    obtain ⟨o, ho⟩ := alw_any _ he
    exact ⟨_, _, _, _, ho, Nat.le_refl _, Nat.le_refl _⟩
  | _ =>
    simp only [aX1, tI, tII, tJ, tJJ, tJI, aobj, aarI, aarJ, aarR, cond_eq_ite] at he
    repeat' split at he
    all_goals first
      | exact absurd he (by simp)
      | exact ⟨_, _, _, _, he, by simp, by simp⟩

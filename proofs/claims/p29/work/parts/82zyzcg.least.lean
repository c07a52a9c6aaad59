-- ===== the least land =====
-- the two ways of seeking the best set agree
def Lx (V : vS) (m a b : Int) : Prop := arN V a m.toNat < arN V b m.toNat ∨ (arN V a m.toNat = arN V b m.toNat ∧ (bcn (tb a) 32 < bcn (tb b) 32 ∨ (bcn (tb a) 32 = bcn (tb b) 32 ∧ a < b)))
theorem best_i {V W : vS} {y m : Int} (hm : 0 ≤ m ∧ m ≤ 10) (ea : ∀ s : Nat, s < 2 ^ m.toNat → arN V (s : Nat) m.toNat = maN W (s : Nat) m.toNat) (ec : ∀ s : Nat, s < 2 ^ m.toNat → (endA V (s : Nat) m ↔ cur W (s : Nat) y)) : ∀ s : Nat, s ≤ 2 ^ m.toNat → (((mBs W y m s).1 = -1 ∧ chF V m s = ((2 ^ m.toNat : Nat) : Int) - 1) ∨ ((0 ≤ (mBs W y m s).1 ∧ (mBs W y m s).1 < (s : Int)) ∧ (mBs W y m s).2 = arN V (mBs W y m s).1 m.toNat ∧ ((Lx V m (mBs W y m s).1 (((2 ^ m.toNat : Nat) : Int) - 1) ∧ chF V m s = (mBs W y m s).1) ∨ (¬ Lx V m (mBs W y m s).1 (((2 ^ m.toNat : Nat) : Int) - 1) ∧ chF V m s = ((2 ^ m.toNat : Nat) : Int) - 1)))) ∧ ∀ u : Nat, u < s → cur W (u : Nat) y → 0 ≤ (mBs W y m s).1 ∧ ¬ Lx V m (u : Nat) (mBs W y m s).1
  | 0, _ => ⟨Or.inl ⟨rfl, rfl⟩, fun u h => absurd h (Nat.not_lt_zero _)⟩
  | s + 1, hs => by
    obtain ⟨I, K⟩ := best_i hm ea ec s (by omega)
    have hlt : s < 2 ^ m.toNat := by omega
    have e := ea s hlt
    have c := ec s hlt
    by_cases cs : cur W (s : Nat) y
    · -- a set that ends all
      have en := c.mpr cs
      by_cases tk : mBp W y m (s : Nat) (mBs W y m s)
      · rw [mBs_t tk]
        obtain ⟨tk, -⟩ := tk
        rw [← e] at tk ⊢
        refine ⟨Or.inr ⟨⟨by omega, by show (s : Int) < ((s + 1 : Nat) : Int); omega⟩, rfl, ?_⟩, fun u hu cu => ⟨by show (0 : Int) ≤ (s : Int); omega, ?_⟩⟩
        · by_cases lf : Lx V m (s : Nat) (((2 ^ m.toNat : Nat) : Int) - 1)
          · refine Or.inl ⟨lf, ?_⟩
            refine chF_t ⟨en, ?_⟩
            unfold isL
            unfold Lx at lf I
            rcases I with ⟨i1, i2⟩ | ⟨i1, i2, ⟨i3, i4⟩ | ⟨i3, i4⟩⟩
            · rw [i2]
              exact lf
            · rw [i4]
              rw [i2] at tk
              omega
            · rw [i4]
              exact lf
          · refine Or.inr ⟨lf, ?_⟩
            unfold Lx at lf I
            rcases I with ⟨i1, i2⟩ | ⟨i1, i2, ⟨i3, i4⟩ | ⟨i3, i4⟩⟩
            · rw [chF_f (fun z => lf (by have := z.2; unfold isL at this; rw [i2] at this; exact this)), i2]
            · exfalso
              rw [i2] at tk
              omega
            · rw [chF_f (fun z => lf (by have := z.2; unfold isL at this; rw [i4] at this; exact this)), i4]
        · show ¬ Lx V m (u : Nat) (s : Nat)
          by_cases z : u = s
          · rw [z]
            unfold Lx
            omega
          · have k := K u (by omega) cu
            rcases I with ⟨i1, i2⟩ | ⟨i1, i2, -⟩
            · omega
            · rw [i2] at tk
              have k2 := k.2
              unfold Lx at k2 ⊢
              omega
      · rw [mBs_f tk]
        have tk2 : ¬ ((mBs W y m s).1 < 0 ∨ maN W (s : Nat) m.toNat < (mBs W y m s).2 ∨ (maN W (s : Nat) m.toNat = (mBs W y m s).2 ∧ bcn (tb (s : Nat)) 32 < bcn (tb (mBs W y m s).1) 32)) := fun z => tk ⟨z, cs⟩
        rw [← e] at tk2
        rcases I with ⟨i1, i2⟩ | ⟨i1, i2, i34⟩
        · omega
        · rw [i2] at tk2
          refine ⟨Or.inr ⟨⟨i1.1, by omega⟩, i2, ?_⟩, fun u hu cu => ?_⟩
          · rcases i34 with ⟨i3, i4⟩ | ⟨i3, i4⟩
            · refine Or.inl ⟨i3, ?_⟩
              rw [chF_f (fun z => ?_), i4]
              have := z.2
              unfold isL at this
              rw [i4] at this
              omega
            · refine Or.inr ⟨i3, ?_⟩
              rw [chF_f (fun z => ?_), i4]
              have := z.2
              unfold isL at this
              rw [i4] at this
              unfold Lx at i3
              omega
          · by_cases z : u = s
            · rw [z]
              refine ⟨i1.1, ?_⟩
              unfold Lx
              omega
            · exact K u (by omega) cu
    · rw [mBs_f (fun z => cs z.2), chF_f (fun z => cs (c.mp z.1))]
      refine ⟨?_, fun u hu cu => ?_⟩
      · rcases I with I | ⟨i1, i2⟩
        · exact Or.inl I
        · exact Or.inr ⟨⟨i1.1, by omega⟩, i2⟩
      · by_cases z : u = s
        · rw [z] at cu
          exact absurd cu cs
        · exact K u (by omega) cu
theorem full_b : ∀ m : Fin 11, ∀ i : Fin 10, i.val < m.val → bAnd (bShr (((2 ^ m.val : Nat) : Int) - 1) (i.val : Int)) 1 = 1 := by decide +kernel
theorem b01k1 : ∀ s : Fin 1024, ∀ i : Fin 10, bAnd (bShr (s.val : Int) (i.val : Int)) 1 = if tb (s.val : Int) i.val then 1 else 0 := by decide +kernel
theorem b01k2 {s i : Nat} (hs : s < 1024) (hi : i < 10) : bAnd (bShr (s : Int) (i : Int)) 1 = if tb (s : Int) i then 1 else 0 := b01k1 ⟨s, hs⟩ ⟨i, hi⟩
theorem best_e {V W : vS} {y m : Int} (hm : 0 ≤ m ∧ m ≤ 10) (ea : ∀ s : Nat, s < 2 ^ m.toNat → arN V (s : Nat) m.toNat = maN W (s : Nat) m.toNat) (ec : ∀ s : Nat, s < 2 ^ m.toNat → (endA V (s : Nat) m ↔ cur W (s : Nat) y)) : (0 ≤ chF V m (2 ^ m.toNat) ∧ chF V m (2 ^ m.toNat) < ((2 ^ m.toNat : Nat) : Int)) ∧ chF V m (2 ^ m.toNat) = (mBs W y m (2 ^ m.toNat)).1 ∧ arN V (chF V m (2 ^ m.toNat)) m.toNat = (mBs W y m (2 ^ m.toNat)).2 := by
  obtain ⟨I, K⟩ := best_i hm ea ec (2 ^ m.toNat) (Nat.le_refl _)
  have pb := p2_b hm
  obtain ⟨f, ef⟩ : ∃ f : Nat, ((2 ^ m.toNat : Nat) : Int) - 1 = (f : Int) := ⟨2 ^ m.toNat - 1, by omega⟩
  have cF : cur W (f : Nat) y := by
    refine (ec f (by omega)).mp (fun i i0 i1 z => ?_)
    have := full_b ⟨m.toNat, by omega⟩ ⟨i.toNat, by omega⟩ (show i.toNat < m.toNat by omega)
    rw [show (((⟨i.toNat, by omega⟩ : Fin 10).val : Nat) : Int) = i by show ((i.toNat : Nat) : Int) = i; omega] at this
    have this : bAnd (bShr (((2 ^ m.toNat : Nat) : Int) - 1) i) 1 = 1 := this
    rw [ef, z] at this
    cases this
  have k := K f (by omega) cF
  refine ⟨chF_b hm _ (Nat.le_refl _), ?_⟩
  rcases I with ⟨i1, -⟩ | ⟨i1, i2, ⟨i3, i4⟩ | ⟨i3, i4⟩⟩
  · omega
  · exact ⟨i4, by rw [i4, i2]⟩
  · have k2 := k.2
    rw [ef] at i3 i4
    unfold Lx at i3 k2
    have e : (mBs W y m (2 ^ m.toNat)).1 = (f : Int) := by omega
    exact ⟨by rw [i4, e], by rw [i4, i2, e]⟩


-- ===== what calls keep =====
section PT9
variable {n : Nat} {X : aX} {M : aM} {Q : Option Value → aH → Prop} {pc len a b : Nat} {l : aL} {st r : List Value} {h : aH} {A B : Int}
theorem pt_putIh {ix o : Nat} {x : Int32} (hf : aF pc M.2.2.2.2.2.2.2 = some (pc, (.putfield ix), len, a, b)) (S : wS h) (ha : x.toInt = A) (k : ∀ h', wS h' → vw h' = up (vw h) o B A → hk h h' → Pt n X M (pc + 3) l r h' Q) (hB : ((b : Nat) : Int) = B := by rfl) (tn : tkN o b = true := by decide +kernel) : Pt (n + 1) X M pc l (.int x :: .ref o :: r) h Q := pt_s fun m hm d v h2 e => by
  obtain ⟨fs, e1, e2, e3, e4⟩ := i_put hf e
  exact k _ (wS_obj S e1 e2 (tkN_R tn)) (by rw [vw_obj e1 e3, ← hB, ← ha]; rfl) (hk_obj e1) m hm d v h2 e4
theorem pt_putRh {ix o x : Nat} (hf : aF pc M.2.2.2.2.2.2.2 = some (pc, (.putfield ix), len, a, b)) (S : wS h) (k : ∀ h', wS h' → vw h' = up (vw h) o B x → hk h h' → Pt n X M (pc + 3) l r h' Q) (hB : ((b : Nat) : Int) = B := by rfl) (tn : tkN o b = true := by decide +kernel) : Pt (n + 1) X M pc l (.ref x :: .ref o :: r) h Q := pt_s fun m hm d v h2 e => by
  obtain ⟨fs, e1, e2, e3, e4⟩ := i_put hf e
  exact k _ (wS_obj S e1 e2 (tkN_R tn)) (by rw [vw_obj e1 e3, ← hB]; rfl) (hk_obj e1) m hm d v h2 e4
theorem pt_iasth {o N : Nat} {N' : Int} {j x : Int32} (hf : aF pc M.2.2.2.2.2.2.2 = some (pc, .iastore, len, a, b)) (S : wS h) (tk : tkL o 0 N = true) (ha : j.toInt = A) (hb : x.toInt = B) (k : ∀ h', wS h' → 0 ≤ A → A < N' → vw h' = up (vw h) o A B → hk h h' → Pt n X M (pc + 1) l r h' Q) (hN : ((N : Nat) : Int) = N' := by rfl) : Pt (n + 1) X M pc l (.int x :: .int j :: .ref o :: r) h Q := pt_s fun m hm d v h2 e => by
  obtain ⟨N0, g, e1, e2, e3, e4⟩ := i_iast hf e
  obtain ⟨-, rfl⟩ := tk_n S tk e1
  exact k _ (wS_arr S e1) (by omega) (by omega) (vw_arr e1 (by omega) (vA_upd ha hb)) (hk_set e1) m hm d v h2 e4
theorem pt_zasth {o N : Nat} {N' : Int} {j x : Int32} (hf : aF pc M.2.2.2.2.2.2.2 = some (pc, .bastore, len, a, b)) (S : wS h) (tk : tkL o 2 N = true) (ha : j.toInt = A) (hb : x.toInt = B) (k : ∀ h', wS h' → 0 ≤ A → A < N' → vw h' = up (vw h) o A (bAnd B 1) → hk h h' → Pt n X M (pc + 1) l r h' Q) (hN : ((N : Nat) : Int) = N' := by rfl) : Pt (n + 1) X M pc l (.int x :: .int j :: .ref o :: r) h Q := pt_s fun m hm d v h2 e => by
  rcases i_bast hf e with ⟨N0, g, e1, e2, e3, e4⟩ | ⟨N0, g, e1, e2, e3, e4⟩
  · obtain ⟨-, rfl⟩ := tk_n S tk e1
    exact k _ (wS_arr S e1) (by omega) (by omega) (vw_arr e1 (by omega) (vA_upd ha (by subst hb; unfold bAnd; rw [oI]; rfl))) (hk_set e1) m hm d v h2 e4
  · obtain ⟨q, -⟩ := tk_n S tk e1
    omega
theorem pt_basth {o N : Nat} {N' : Int} {j x : Int32} (hf : aF pc M.2.2.2.2.2.2.2 = some (pc, .bastore, len, a, b)) (S : wS h) (tk : tkL o 3 N = true) (ha : j.toInt = A) (hb : x.toInt = B) (k : ∀ h', wS h' → 0 ≤ A → A < N' → vw h' = up (vw h) o A (w8 B) → hk h h' → Pt n X M (pc + 1) l r h' Q) (hN : ((N : Nat) : Int) = N' := by rfl) : Pt (n + 1) X M pc l (.int x :: .int j :: .ref o :: r) h Q := pt_s fun m hm d v h2 e => by
  rcases i_bast hf e with ⟨N0, g, e1, e2, e3, e4⟩ | ⟨N0, g, e1, e2, e3, e4⟩
  · obtain ⟨q, -⟩ := tk_n S tk e1
    omega
  · obtain ⟨-, rfl⟩ := tk_n S tk e1
    exact k _ (wS_arr S e1) (by omega) (by omega) (vw_arr e1 (by omega) (vA_upd ha (by subst hb; rw [Int8.toInt_toInt32, Int32.toInt_toInt8, w8_b]))) (hk_set e1) m hm d v h2 e4
theorem pt_lasth {o N : Nat} {N' : Int} {j : Int32} {x : Int64} (hf : aF pc M.2.2.2.2.2.2.2 = some (pc, .lastore, len, a, b)) (S : wS h) (tk : tkL o 1 N = true) (ha : j.toInt = A) (hb : x.toInt = B) (k : ∀ h', wS h' → 0 ≤ A → A < N' → vw h' = up (vw h) o A B → hk h h' → Pt n X M (pc + 1) l r h' Q) (hN : ((N : Nat) : Int) = N' := by rfl) : Pt (n + 1) X M pc l (.long x :: .int j :: .ref o :: r) h Q := pt_s fun m hm d v h2 e => by
  obtain ⟨N0, g, e1, e2, e3, e4⟩ := i_last hf e
  obtain ⟨-, rfl⟩ := tk_n S tk e1
  exact k _ (wS_arr S e1) (by omega) (by omega) (vw_arr e1 (by omega) (by
    subst ha
    subst hb
    intro k
    unfold vA vp_updL
    dsimp only
    split
    · rfl
    · rfl)) (hk_set e1) m hm d v h2 e4
end PT9
theorem rOK_m {V W : vS} (A : agM V W) (h3 : ∀ (c : Nat) j, 103 ≤ c → c ≤ 110 → W c j = V c j) (e8 : W 72 38 = V 72 38) (e9 : W 72 39 = V 72 39) (R : rOK V) : rOK W := by
  intro z
  obtain ⟨a, b⟩ := R (e8.symm.trans z)
  rw [e9]
  refine ⟨fun c c0 cN => ?_, fun c c0 cN m y0 y1 => ?_⟩
  · rw [agM_19 A] at cN
    rw [h3 103 c (by decide) (by decide), a c c0 cN]
    exact (bI_c (mcn_m A c _)).symm
  · rw [agM_19 A] at cN
    rw [agM_x A 90 c (by decide) (by decide)] at y0 y1
    have r := b c c0 cN ((mcn_m A c _).mp m) y0 y1
    exact ⟨(h3 104 c (by decide) (by decide)).trans (r.1.trans (vG_m A _ c).symm), (h3 106 c (by decide) (by decide)).trans (r.2.1.trans (vB_m A _ c).symm), (h3 105 c (by decide) (by decide)).trans (r.2.2.trans (vF_m A _ c).symm)⟩
def sea (h : aH) (y : Int) (q : Nat) : Prop := 146 ≤ q ∧ slk (vw h) q ∧ vw h q 2 = y ∧ skd h q ∧ vw h q 5 ≤ 300 ∧ vw h q 4 ≤ stm (vw h) ∧ (vw h q 4 = stm (vw h) → scK (vw h) q y (vw h q 3))
def IV (h : aH) : Prop := pb (vw h) ∧ (∀ y, 0 ≤ y → y ≤ 9 → ∀ q : Nat, vw h 42 y = (q : Int) → sea h y q) ∧ (∀ y y', (0 ≤ y ∧ y ≤ 9) → (0 ≤ y' ∧ y' ≤ 9) → y ≠ y' → ∀ q q' : Nat, vw h 42 y = (q : Int) → vw h 42 y' = (q' : Int) → q + 7 < q' ∨ q' + 7 < q) ∧ q239 (vw h)
theorem stm_c {V W : vS} (h : ∀ (c : Nat) j, c < 33 → W c j = V c j) : stm W = stm V := by
  unfold stm
  rw [h 1 1 (by decide), h 1 5 (by decide), h 16 1 (by decide), h 16 2 (by decide), h 16 3 (by decide)]
-- a season whose own cells, and what it was made of, are as they were
theorem sea_c {h h' : aH} {y : Int} {q : Nat} (s : sea h y q) (K : hk h h') (e1 : ∀ (c : Nat) j, c < 33 → vw h' c j = vw h c j) (e3 : ∀ (c : Nat) j, q ≤ c → c ≤ q + 7 → vw h' c j = vw h c j) : sea h' y q := by
  obtain ⟨a, b, c, d, e, f, g⟩ := s
  have eq : ∀ j, vw h' q j = vw h q j := fun j => e3 q j (Nat.le_refl _) (by omega)
  refine ⟨a, slk_c b (fun j _ _ _ => eq j), by rw [eq]; exact c, skd_k K d, by rw [eq]; exact e, by rw [eq, stm_c e1]; exact f, fun z => ?_⟩
  rw [eq, stm_c e1] at z
  rw [eq]
  exact scK_c (g z) (fun c j z' => e1 c j (by omega)) (fun c j u v => e3 c j u (by omega))
theorem IV_w {h h' : aH} (I : IV h) (K : hk h h') (e1 : ∀ (c : Nat) j, c < 33 → vw h' c j = vw h c j) (e2 : ∀ j, vw h' 42 j = vw h 42 j) (e3 : ∀ (c : Nat) j, 146 ≤ c → vw h' c j = vw h c j) (e4 : ∀ (c : Nat) j, 72 < c → c ≤ 110 → vw h' c j = vw h c j) (e5 : vw h' 72 19 = vw h 72 19 ∧ vw h' 72 25 = vw h 72 25 ∧ vw h' 72 32 = vw h 72 32 ∧ vw h' 72 38 = vw h 72 38 ∧ vw h' 72 39 = vw h 72 39) : IV h' := by
  obtain ⟨a, b, c, ⟨d1, d2, d3, d4, d5⟩⟩ := I
  have A : agM (vw h) (vw h') := ⟨fun c j u v => e4 c j u (by omega), e5.1, e5.2.1, e5.2.2.1⟩
  refine ⟨pbK_c a e1, fun y y0 y9 q e => ?_, fun y y' hy hy' n q q' e e' => c y y' hy hy' n q q' ((e2 y).symm.trans e) ((e2 y').symm.trans e'), ?_⟩
  · have s := b y y0 y9 q ((e2 y).symm.trans e)
    have := s.1
    exact sea_c s K e1 (fun c j u _ => e3 c j (by omega))
  · refine ⟨by rw [e5.1]; exact d1, by rw [e5.2.1]; exact d2, by rw [e5.2.2.1]; exact d3, fun c u v => by rw [e4 87 c (by decide) (by decide)]; exact d4 c u v, rOK_m A (fun c j u v => e4 c j (by omega) v) e5.2.2.2.1 e5.2.2.2.2 d5⟩
def ivA (c : Nat) : Bool := Nat.ble 43 c && Nat.ble c 71 || Nat.ble 111 c && Nat.ble c 145
theorem IV_ua {h h' : aH} {c : Nat} {j v : Int} (I : IV h) (K : hk h h') (e : vw h' = up (vw h) c j v) (k : ivA c = true) : IV h' := by
  have r : 43 ≤ c ∧ c ≤ 71 ∨ 111 ≤ c ∧ c ≤ 145 := by
    unfold ivA at k
    simp only [Bool.or_eq_true, Bool.and_eq_true, Nat.ble_eq] at k
    exact k
  have g : ∀ (c' : Nat) j', c' ≠ c → vw h' c' j' = vw h c' j' := fun c' j' n => by rw [e, up_c n]
  exact IV_w I K (fun c' j' z => g c' j' (by omega)) (fun j' => g 42 j' (by omega)) (fun c' j' z => g c' j' (by omega)) (fun c' j' z z' => g c' j' (by omega)) ⟨g 72 _ (by omega), g 72 _ (by omega), g 72 _ (by omega), g 72 _ (by omega), g 72 _ (by omega)⟩
def ivF (c : Nat) (j : Int) : Bool := c == 33 || c == 41 || c == 48 || (c == 72 && j != 19 && j != 25 && j != 32 && j != 38 && j != 39)
theorem IV_uf {h h' : aH} {c : Nat} {j v : Int} (I : IV h) (K : hk h h') (e : vw h' = up (vw h) c j v) (k : ivF c j = true) : IV h' := by
  have r : (c = 33 ∨ c = 41 ∨ c = 48) ∨ (c = 72 ∧ j ≠ 19 ∧ j ≠ 25 ∧ j ≠ 32 ∧ j ≠ 38 ∧ j ≠ 39) := by
    unfold ivF at k
    simp only [Bool.or_eq_true, Bool.and_eq_true, beq_iff_eq, bne_iff_ne] at k
    omega
  have g : ∀ (c' : Nat) j', c' ≠ c → vw h' c' j' = vw h c' j' := fun c' j' n => by rw [e, up_c n]
  have g2 : ∀ j', (j' = 19 ∨ j' = 25 ∨ j' = 32 ∨ j' = 38 ∨ j' = 39) → vw h' 72 j' = vw h 72 j' := fun j' z => by
    by_cases w : c = 72
    · rw [e, up_j (by omega)]
    · exact g 72 j' (fun x => w x.symm)
  exact IV_w I K (fun c' j' z => g c' j' (by omega)) (fun j' => g 42 j' (by omega)) (fun c' j' z => g c' j' (by omega)) (fun c' j' z z' => g c' j' (by omega)) ⟨g2 _ (by omega), g2 _ (by omega), g2 _ (by omega), g2 _ (by omega), g2 _ (by omega)⟩

theorem IV_1 {h h' : aH} {y k : Int} {q : Nat} (I : IV h) (R : R1 h y k q h') : IV h' := by
  have I0 := I
  obtain ⟨a, b, c, ⟨d1, d2, d3, d4, d5⟩⟩ := I0
  obtain ⟨⟨hq, K, ⟨y0, y9⟩, D⟩, R⟩ := R
  rcases R with ⟨-, -, -, rfl⟩ | ⟨U, R97', ⟨L, U2, U42⟩, F⟩
  · exact I
  · obtain ⟨sc, fr, v4⟩ := scK_b hq R97' U2
    have e0 : ∀ (c : Nat) j, c < q ∨ q + 7 < c → (c ≠ 42 ∨ j ≠ y) → vw h' c j = vw h c j := fun c j z w => by
      rw [fr c j z]
      rcases F with ⟨-, rfl⟩ | ⟨-, -, f⟩
      · rfl
      · exact f c j (by omega) w
    have e1 : ∀ (c : Nat) j, c < 33 → vw h' c j = vw h c j := fun c j z => e0 c j (by omega) (Or.inl (by omega))
    have e42 : vw h' 42 y = (q : Int) := (fr 42 y (by omega)).trans U42
    have o42 : ∀ j, j ≠ y → vw h' 42 j = vw h 42 j := fun j z => e0 42 j (by omega) (Or.inr z)
    have e4 : ∀ (c : Nat) j, 72 ≤ c → c ≤ 110 → vw h' c j = vw h c j := fun c j z w => e0 c j (by omega) (Or.inl (by omega))
    -- another year's season lies elsewhere
    have away : ∀ y', 0 ≤ y' → y' ≤ 9 → y' ≠ y → ∀ q' : Nat, vw h' 42 y' = (q' : Int) → vw h 42 y' = (q' : Int) ∧ (q + 7 < q' ∨ q' + 7 < q) := fun y' u v w q' e => by
      have e' := (o42 y' w).symm.trans e
      refine ⟨e', ?_⟩
      rcases F with ⟨f, -⟩ | ⟨-, f, -⟩
      · exact c y y' ⟨y0, by omega⟩ ⟨u, v⟩ (fun z => w z.symm) q q' f e'
      · obtain ⟨-, -, -, ⟨-, -, -, t, x, s⟩, -⟩ := b y' u v q' e'
        have := (List.getElem?_eq_some_iff.mp s).1
        omega
    have st : stm (vw h') = stm (vw h) := stm_c e1
    have sl := R1_k (k := k) (q := q) (h' := h') ⟨y0, by omega⟩ ⟨a, fun u v q' e => by
      have s := b y u (by omega) q' e.symm
      exact ⟨s.1, s.2.1, s.2.2.1, s.2.2.2.1⟩⟩ (by
      by_cases z : vw h 42 y = (q : Int)
      · exact Or.inl (b y y0 (by omega) q z).2.2.2.2.1
      · exact Or.inr z) ⟨⟨hq, K, ⟨y0, y9⟩, D⟩, Or.inr ⟨U, R97', ⟨L, U2, U42⟩, F⟩⟩
    refine ⟨pbK_c a e1, fun y' u v q' e => ?_, fun y' y'' hy hy' n q' q'' e e' => ?_, ?_⟩
    · by_cases w : y' = y
      · rw [w, e42] at e
        have eq : q' = q := by omega
        rw [eq, w]
        exact ⟨hq, sl.1, sc.1.1, D, sl.2.1, by rw [v4, st]; exact Int.le_refl _, fun _ => by rw [sc.1.2]; exact sc⟩
      · obtain ⟨e', aw⟩ := away y' u v w q' e
        have s := b y' u v q' e'
        have := s.1
        exact sea_c s K e1 (fun c j g g' => e0 c j (by omega) (Or.inl (by omega)))
    · by_cases w : y' = y
      · by_cases w' : y'' = y
        · exact absurd (w.trans w'.symm) n
        · rw [w, e42] at e
          have := (away y'' hy'.1 hy'.2 w' q'' e').2
          omega
      · by_cases w' : y'' = y
        · rw [w', e42] at e'
          have := (away y' hy.1 hy.2 w q' e).2
          omega
        · exact c y' y'' hy hy' n q' q'' (away y' hy.1 hy.2 w q' e).1 (away y'' hy'.1 hy'.2 w' q'' e').1
    · have A : agM (vw h) (vw h') := ⟨fun c j g g' => e4 c j (by omega) (by omega), e4 72 19 (by decide) (by decide), e4 72 25 (by decide) (by decide), e4 72 32 (by decide) (by decide)⟩
      refine ⟨by rw [e4 72 19 (by decide) (by decide)]; exact d1, by rw [e4 72 25 (by decide) (by decide)]; exact d2, by rw [e4 72 32 (by decide) (by decide)]; exact d3, fun c u v => by rw [e4 87 c (by decide) (by decide)]; exact d4 c u v, rOK_m A (fun c j u v => e4 c j (by omega) v) (e4 72 38 (by decide) (by decide)) (e4 72 39 (by decide) (by decide)) d5⟩
theorem wk_1 {n : Nat} {X : aX} {h : aH} {x1 x2 : Int32} {a1 a2 : Int} (S : wS h) (z1 : x1.toInt = a1) (z2 : x2.toInt = a2) (I : IV h) : Pt n X zM1 0 [some (.ref 41), some (.int x1), some (.int x2), none, none] [] h (qR (fun _ h' => wS h' ∧ hk h h' ∧ IV h')) := by
  refine pt_q (c_1 S z1 z2 ⟨I.1, fun y0 y9 q e => ?_⟩) ?_
  · have s := I.2.1 a1 y0 (by omega) q e.symm
    exact ⟨s.1, s.2.1, s.2.2.1, s.2.2.2.1⟩
  · rintro v h' ⟨q, ev, S', R⟩
    exact ⟨q, ev, S', R.1.2.1, IV_1 I R⟩


-- ===== the reference lays a text out =====
-- a code stands from a place on
def cAt (V : vS) : Int → List (Int × Int) → Prop
  | _, [] => True
  | b, (w, x) :: L => (V 122 b = w ∧ V 123 b = x) ∧ cAt V (b + 1) L
theorem cAt_a {V : vS} : ∀ (L M : List (Int × Int)) (b : Int), cAt V b (L ++ M) ↔ cAt V b L ∧ cAt V (b + (L.length : Int)) M
  | [], M, b => by
    show cAt V b M ↔ True ∧ cAt V (b + ((0 : Nat) : Int)) M
    rw [Int.natCast_zero, Int.add_zero, true_and]
  | (w, x) :: L, M, b => by
    show ((V 122 b = w ∧ V 123 b = x) ∧ cAt V (b + 1) (L ++ M)) ↔ ((V 122 b = w ∧ V 123 b = x) ∧ cAt V (b + 1) L) ∧ cAt V (b + ((L.length + 1 : Nat) : Int)) M
    rw [cAt_a L M (b + 1), show b + 1 + (L.length : Int) = b + ((L.length + 1 : Nat) : Int) by omega]
    exact ⟨fun ⟨x, y, z⟩ => ⟨⟨x, y⟩, z⟩, fun ⟨⟨x, y⟩, z⟩ => ⟨x, y, z⟩⟩
theorem cAt_k {V W : vS} : ∀ (L : List (Int × Int)) (b : Int), (∀ j, b ≤ j → j < b + (L.length : Int) → W 122 j = V 122 j ∧ W 123 j = V 123 j) → cAt V b L → cAt W b L
  | [], _, _, _ => trivial
  | (w, x) :: L, b, h, c => by
    have e : (((w, x) :: L).length : Int) = (L.length : Int) + 1 := by rw [List.length_cons]; omega
    rw [e] at h
    have h0 := h b (Int.le_refl _) (by omega)
    exact ⟨⟨h0.1.trans c.1.1, h0.2.trans c.1.2⟩, cAt_k L (b + 1) (fun j u v => h j (by omega) (by omega)) c.2⟩
-- a code is no longer than what is read
theorem cdF_n (T : Int → Int) : ∀ (k t : Nat) (o p q : Int) (L : List (Int × Int)), 0 ≤ p → cdF T k t o p = some (q, L) → (L.length : Int) ≤ q - p
  | 0, _, _, _, _, _, _, e => by cases e
  | k + 1, t, o, p, q, L, hp, e => by
    have ih := cdF_n T k
    have ps : ∀ {t o p q L}, 0 ≤ p → cdF T k t o p = some (q, L) → p ≤ q := fun h e => (pr_b h (cdF_p T k _ _ _ _ _ e)).2.1
    have sq : ∀ {t1 t2 : Nat}, cdT (cdF T k t1 o p) [] (fun q => cdF T k t2 o q) = some (q, L) → (L.length : Int) ≤ q - p := fun e => by
      obtain ⟨q1, L1, L2, a, b, rfl⟩ := cdT_x e
      have i1 := ih _ _ _ _ _ hp a
      have p1 := ps hp a
      have i2 := ih _ _ _ _ _ (by omega) b
      rw [List.nil_append, List.length_append]
      omega
    have lp : ∀ {t1 : Nat}, (bif opB t (T p) then cdT (cdF T k t1 o (p + 1)) [(T p, 0)] (fun q => cdF T k t o q) else some (p, [])) = some (q, L) → (L.length : Int) ≤ q - p := fun e => by
      cases z : opB t (T p) with
      | false =>
        rw [z] at e
        cases e
        show ((0 : Nat) : Int) ≤ p - p
        omega
      | true =>
        rw [z] at e
        obtain ⟨q1, L1, L2, a, b, rfl⟩ := cdT_x e
        have i1 := ih _ _ _ _ _ (by omega) a
        have p1 := ps (by omega) a
        have i2 := ih _ _ _ _ _ (by omega) b
        rw [List.length_append, List.length_append]
        show ((L1.length + (1 + L2.length) : Nat) : Int) ≤ q - p
        omega
    match t with
    | 0 =>
      rw [ko_s] at e
      cases z1 : nmB (T p) with
      | true =>
        rw [z1] at e
        cases e
        show ((1 : Nat) : Int) ≤ p + 1 - p
        omega
      | false =>
        rw [z1] at e
        have un : ∀ w : Int, (bif o == 8 then none else cdT (cdF T k 0 (o + 1) (p + 1)) [(w, 0)] (fun q => some (q, []))) = some (q, L) → (L.length : Int) ≤ q - p := fun w e => by
          cases z : (o == 8) with
          | true => rw [z] at e; cases e
          | false =>
            rw [z] at e
            have e : cdT (cdF T k 0 (o + 1) (p + 1)) [(w, 0)] (fun q => some (q, [])) = some (q, L) := e
            obtain ⟨q1, L1, L2, a, b, rfl⟩ := cdT_x e
            cases b
            have i1 := ih _ _ _ _ _ (by omega) a
            rw [List.length_append]
            show ((L1.length + 1 : Nat) : Int) ≤ q - p
            omega
        cases z2 : (T p == 33) with
        | true => rw [z2] at e; exact un 3 e
        | false =>
          rw [z2] at e
          cases z3 : (T p == 45) with
          | true => rw [z3] at e; exact un 4 e
          | false =>
            rw [z3] at e
            cases z4 : (T p == 40) with
            | true =>
              rw [z4] at e
              cases z : (o == 8) with
              | true => rw [z] at e; cases e
              | false =>
                rw [z] at e
                obtain ⟨q1, L1, L2, a, b, rfl⟩ := cdT_x e
                have i1 := ih _ _ _ _ _ (by omega) a
                cases z5 : (T q1 == 41) with
                | false => simp only [z5, cond_false] at b; cases b
                | true =>
                  simp only [z5, cond_true] at b
                  cases b
                  rw [List.nil_append, List.append_nil]
                  omega
            | false =>
              rw [z4] at e
              have d := dEnd_b T 6 p
              cases z6 : (dgEnd T 6 p == p || isD (T (dgEnd T 6 p))) with
              | true => rw [z6] at e; cases e
              | false =>
                rw [z6] at e
                cases e
                rw [Bool.or_eq_false_iff] at z6
                have := ne_of_beq_false z6.1
                show ((1 : Nat) : Int) ≤ dgEnd T 6 p - p
                omega
    | 1 => exact sq e
    | 2 => exact lp e
    | 3 => exact sq e
    | 4 => exact lp e
    | 5 => exact sq e
    | 6 => exact sq e
    | 7 => exact lp e
    | 8 => exact sq e
    | 9 => exact lp e
    | 10 => cases e
    | 11 => cases e
    | 12 =>
      rw [kch12] at e
      cases z : opB 12 (T p) with
      | false =>
        rw [z] at e
        cases e
        show ((0 : Nat) : Int) ≤ p - p
        omega
      | true =>
        rw [z] at e
        have e : cdT (cdF T k 3 o (p + 1)) [(T p, 0)] (fun q => some (q, [])) = some (q, L) := e
        obtain ⟨q1, L1, L2, a, b, rfl⟩ := cdT_x e
        cases b
        have i1 := ih _ _ _ _ _ (by omega) a
        rw [List.length_append]
        show ((L1.length + 1 : Nat) : Int) ≤ q - p
        omega
    | _ + 13 => cases e
theorem cd_n {T : Int → Int} {t : Nat} {o p q : Int} {L : List (Int × Int)} (h : 0 ≤ p) (a : Cd T t o p q L) : (L.length : Int) ≤ q - p := by
  obtain ⟨k, a⟩ := a
  exact cdF_n T k t o p q L h a
-- a step of code is laid
def lAt (V : vS) : Int := w32 (w32 (170 * V 72 67) + V 72 68)
def RLay (V : vS) (w x : Int) (W : vS) : Prop := W = up (up (up V 122 (lAt V) w) 123 (lAt V) x) 72 68 (w32 (V 72 68 + 1))
theorem c_253v {n : Nat} {X : aX} {h : aH} {x1 x2 : Int32} {a1 a2 : Int} (S : wS h) (z1 : x1.toInt = a1) (z2 : x2.toInt = a2) : Pt n X zM253 0 [some (.ref 72), some (.int x1), some (.int x2)] [] h (qN (fun h' => wS h' ∧ RLay (vw h) a1 a2 (vw h'))) :=
  pt_d (d253_0 S z1 z2 (fun _ _ g S2 eg => ⟨S2, eg⟩))
theorem lay_l {V W : vS} {w x : Int} (l : RLay V w x W) : lfr V W := fun c j h1 h2 h3 => by
  rw [l]
  by_cases z : c = 72
  · subst z
    rw [up_j (h3 rfl), up_c h2, up_c h1]
  · rw [up_c z, up_c h2, up_c h1]
def kpre (V : vS) : Prop := (0 ≤ V 72 67 ∧ V 72 67 ≤ 15) ∧ 0 ≤ V 72 68 ∧ V 72 68 ≤ V 72 64
theorem lAt_e {V : vS} (k : kpre V) (h : V 72 64 ≤ 160) : lAt V = 170 * V 72 67 + V 72 68 := by
  unfold lAt
  rw [w32_id (z := 170 * V 72 67) (by have := k.1; omega) (by have := k.1; omega), w32_id (by have := k.1; have := k.2; omega) (by have := k.1; have := k.2; omega)]
-- what stays: the code laid ahead of it, the lines, the row; what is laid is no more than what is read (and s)
def kFs (s : Int) (V V' : vS) : Prop := (∀ c j, (c = 119 ∨ c = 120 ∨ c = 121 ∨ (c = 72 ∧ j = 67)) → V' c j = V c j) ∧ (∀ j, j < 170 * V 72 67 + V 72 68 → V' 122 j = V 122 j ∧ V' 123 j = V 123 j) ∧ V 72 68 ≤ V' 72 68 ∧ V' 72 68 - V 72 68 ≤ V' 72 64 - V 72 64 + s
section KF
variable {s s1 : Int} {V V1 V2 V' W : vS}
theorem kFs_67 (F : kFs s V V') : V' 72 67 = V 72 67 := F.1 72 67 (Or.inr (Or.inr (Or.inr ⟨rfl, rfl⟩)))
theorem kFs_r : kFs 0 V V := ⟨fun _ _ _ => rfl, fun _ _ => ⟨rfl, rfl⟩, Int.le_refl _, by omega⟩
theorem kFs_t (a : kFs s V V1) (b : kFs s1 V1 V2) : kFs (s + s1) V V2 := by
  have e := kFs_67 a
  have a3 := a.2.2.1
  have a4 := a.2.2.2
  have b3 := b.2.2.1
  have b4 := b.2.2.2
  refine ⟨fun c j z => (b.1 c j z).trans (a.1 c j z), fun j u => ?_, by omega, by omega⟩
  have x := b.2.1 j (by omega)
  have y := a.2.1 j u
  exact ⟨x.1.trans y.1, x.2.trans y.2⟩
theorem kFs_s (e : s = s1) (a : kFs s V V') : kFs s1 V V' := by rw [← e]; exact a
theorem kFs_i (h : ∀ c j, (c = 119 ∨ c = 120 ∨ c = 121 ∨ c = 122 ∨ c = 123 ∨ (c = 72 ∧ (j = 67 ∨ j = 68))) → V' c j = V c j) (e : V 72 64 = V' 72 64 + s) : kFs s V V' := by
  have e8 := h 72 68 (by omega)
  exact ⟨fun c j z => h c j (by omega), fun j _ => ⟨h 122 j (by omega), h 123 j (by omega)⟩, by omega, by omega⟩
theorem kFs_j (h : ∀ c j, (c = 119 ∨ c = 120 ∨ c = 121 ∨ c = 122 ∨ c = 123 ∨ (c = 72 ∧ (j = 67 ∨ j = 68))) → V2 c j = V1 c j) (e : V2 72 64 = V1 72 64) (a : kFs s V V1) : kFs s V V2 := kFs_s (by omega) (kFs_t a (kFs_i (s := 0) h (by omega)))
theorem kF_p (hs : s ≤ 0) (K : kpre V) (F : kFs s V V') : kpre V' := by
  have e := kFs_67 F
  have k := K.2
  have f3 := F.2.2.1
  have f4 := F.2.2.2
  exact ⟨by rw [e]; exact K.1, by omega, by omega⟩
theorem up_fr {c : Nat} {i v : Int} (h : c = 72 ∧ (i = 64 ∨ i = 65 ∨ i = 66)) : ∀ c' j, (c' = 119 ∨ c' = 120 ∨ c' = 121 ∨ c' = 122 ∨ c' = 123 ∨ (c' = 72 ∧ (j = 67 ∨ j = 68))) → up V c i v c' j = V c' j := fun c' j z => by
  by_cases e : c' = 72
  · subst e
    obtain ⟨rfl, h⟩ := h
    exact up_j (by omega)
  · exact up_c (by omega)
theorem lay_F {w x : Int} (K : kpre V) (b : V 72 64 ≤ 160) (l : RLay V w x W) : kFs 1 V W ∧ W 72 68 = V 72 68 + 1 ∧ (W 122 (170 * V 72 67 + V 72 68) = w ∧ W 123 (170 * V 72 67 + V 72 68) = x) ∧ W 72 64 = V 72 64 ∧ W 72 65 = V 72 65 := by
  have la := lAt_e K b
  have k := K.2
  have e64 : W 72 64 = V 72 64 := lfr_e (lay_l l) (by decide)
  have l68 : W 72 68 = V 72 68 + 1 := by
    rw [l, up_s, w32_id (by omega) (by omega)]
  have s122 : ∀ j, W 122 j = if j = lAt V then w else V 122 j := fun j => by rw [l, up_c (by decide), up_c (by decide), up_p]
  have s123 : ∀ j, W 123 j = if j = lAt V then x else V 123 j := fun j => by rw [l, up_c (by decide), up_p, up_c (by decide)]
  refine ⟨⟨fun c j z => lay_l l c j (by omega) (by omega) (fun _ => by omega), fun j u => ?_, by omega, by omega⟩, l68, ⟨?_, ?_⟩, e64, lfr_e (lay_l l) (by decide)⟩
  · rw [s122, s123, if_neg (by omega), if_neg (by omega)]
    exact ⟨rfl, rfl⟩
  · rw [s122, if_pos la.symm]
  · rw [s123, if_pos la.symm]
end KF
def kOk (t : Nat) (o p : Int) (V V' : vS) : Prop := ∃ q L, Cd (mT V) t o p q L ∧ V' 72 64 = q ∧ V' 72 68 = V 72 68 + (L.length : Int) ∧ cAt V' (170 * V 72 67 + V 72 68) L
def kRes (t : Nat) (V V' : vS) : Prop := kFs 0 V V' ∧ (V' 72 65 < 0 → kOk t (V 72 66) (V 72 64) V V')
def kLo (t : Nat) (V V' : vS) : Prop := kFs 0 V V' ∧ (V 72 65 < 0 → V' 72 65 < 0 → kOk t (V 72 66) (V 72 64) V V')


-- ===== what a farm is paid =====
-- what a text says hangs on the thirteen names alone
def okL : List (Int × Int) → Prop
  | [] => True
  | (w, x) :: L => (w = 2 → 0 ≤ x ∧ x ≤ 12) ∧ okL L
theorem okL_a : ∀ (L M : List (Int × Int)), okL L → okL M → okL (L ++ M)
  | [], _, _, m => m
  | (_, _) :: L, M, l, m => ⟨l.1, okL_a L M l.2 m⟩
theorem nmV_r {t : Int} (h : nmB t = true) : 0 ≤ nmV t ∧ nmV t ≤ 12 := by
  have r := nmB_r h
  have k : ∀ t : Fin 128, nmB (t.val : Int) = true → 0 ≤ nmV (t.val : Int) ∧ nmV (t.val : Int) ≤ 12 := by decide +kernel
  have k := k ⟨t.toNat, by omega⟩
  rw [show (((⟨t.toNat, by omega⟩ : Fin 128).val : Nat) : Int) = t by show ((t.toNat : Nat) : Int) = t; omega] at k
  exact k h
theorem cdF_k (T : Int → Int) : ∀ (k t : Nat) (o p q : Int) (L : List (Int × Int)), cdF T k t o p = some (q, L) → okL L
  | 0, _, _, _, _, _, e => by cases e
  | k + 1, t, o, p, q, L, e => by
    have ih := cdF_k T k
    have sq : ∀ {t1 t2 : Nat}, cdT (cdF T k t1 o p) [] (fun q => cdF T k t2 o q) = some (q, L) → okL L := fun e => by
      obtain ⟨q1, L1, L2, a, b, rfl⟩ := cdT_x e
      exact okL_a _ _ (ih _ _ _ _ _ a) (ih _ _ _ _ _ b)
    have lp : ∀ {t1 : Nat}, (bif opB t (T p) then cdT (cdF T k t1 o (p + 1)) [(T p, 0)] (fun q => cdF T k t o q) else some (p, [])) = some (q, L) → okL L := fun e => by
      cases z : opB t (T p) with
      | false =>
        rw [z] at e
        cases e
        trivial
      | true =>
        rw [z] at e
        obtain ⟨q1, L1, L2, a, b, rfl⟩ := cdT_x e
        exact okL_a _ _ (ih _ _ _ _ _ a) ⟨fun w => absurd w (opB_n z).2.1, ih _ _ _ _ _ b⟩
    match t with
    | 0 =>
      rw [ko_s] at e
      cases z1 : nmB (T p) with
      | true =>
        rw [z1] at e
        cases e
        exact ⟨fun _ => nmV_r z1, trivial⟩
      | false =>
        rw [z1] at e
        have un : ∀ w : Int, (w = 3 ∨ w = 4) → (bif o == 8 then none else cdT (cdF T k 0 (o + 1) (p + 1)) [(w, 0)] (fun q => some (q, []))) = some (q, L) → okL L := fun w hw e => by
          cases z : (o == 8) with
          | true => rw [z] at e; cases e
          | false =>
            rw [z] at e
            have e : cdT (cdF T k 0 (o + 1) (p + 1)) [(w, 0)] (fun q => some (q, [])) = some (q, L) := e
            obtain ⟨q1, L1, L2, a, b, rfl⟩ := cdT_x e
            cases b
            exact okL_a _ _ (ih _ _ _ _ _ a) ⟨fun z => by omega, trivial⟩
        cases z2 : (T p == 33) with
        | true => rw [z2] at e; exact un 3 (Or.inl rfl) e
        | false =>
          rw [z2] at e
          cases z3 : (T p == 45) with
          | true => rw [z3] at e; exact un 4 (Or.inr rfl) e
          | false =>
            rw [z3] at e
            cases z4 : (T p == 40) with
            | true =>
              rw [z4] at e
              cases z : (o == 8) with
              | true => rw [z] at e; cases e
              | false =>
                rw [z] at e
                obtain ⟨q1, L1, L2, a, b, rfl⟩ := cdT_x e
                cases z5 : (T q1 == 41) with
                | false => simp only [z5, cond_false] at b; cases b
                | true =>
                  simp only [z5, cond_true] at b
                  cases b
                  exact okL_a _ _ (ih _ _ _ _ _ a) trivial
            | false =>
              rw [z4] at e
              cases z6 : (dgEnd T 6 p == p || isD (T (dgEnd T 6 p))) with
              | true => rw [z6] at e; cases e
              | false =>
                rw [z6] at e
                cases e
                exact ⟨fun w => absurd w (by decide), trivial⟩
    | 1 => exact sq e
    | 2 => exact lp e
    | 3 => exact sq e
    | 4 => exact lp e
    | 5 => exact sq e
    | 6 => exact sq e
    | 7 => exact lp e
    | 8 => exact sq e
    | 9 => exact lp e
    | 10 => cases e
    | 11 => cases e
    | 12 =>
      rw [kch12] at e
      cases z : opB 12 (T p) with
      | false =>
        rw [z] at e
        cases e
        trivial
      | true =>
        rw [z] at e
        have e : cdT (cdF T k 3 o (p + 1)) [(T p, 0)] (fun q => some (q, [])) = some (q, L) := e
        obtain ⟨q1, L1, L2, a, b, rfl⟩ := cdT_x e
        cases b
        exact okL_a _ _ (ih _ _ _ _ _ a) ⟨fun w => absurd w (opB_n z).2.1, trivial⟩
    | _ + 13 => cases e
theorem cd_k {T : Int → Int} {t : Nat} {o p q : Int} {L : List (Int × Int)} (d : Cd T t o p q L) : okL L := by
  obtain ⟨k, d⟩ := d
  exact cdF_k T k t o p q L d
theorem stpP_k {N N' : Int → Int} {w x : Int} (h : w = 2 → N x = N' x) (st : List Int) : stpP N w x st = stpP N' w x st := by
  unfold stpP
  by_cases z : w = 2
  · rw [h z]
  · rw [if_neg z, if_neg z]
theorem run_k {N N' : Int → Int} (h : ∀ j, 0 ≤ j → j ≤ 12 → N j = N' j) : ∀ (L : List (Int × Int)) (st : List Int), okL L → run N L st = run N' L st
  | [], _, _ => rfl
  | (w, x) :: L, st, o => by
    rw [run_c, run_c, stpP_k (N' := N') (fun z => h x (o.1 z).1 (o.1 z).2)]
    exact run_k h L _ o.2
theorem evC_k {N N' : Int → Int} (h : ∀ j, 0 ≤ j → j ≤ 12 → N j = N' j) {L : List (Int × Int)} (o : okL L) : evC N L = evC N' L := by
  unfold evC
  rw [run_k h L _ o]
def okS : cLs → Prop
  | [] => True
  | (M, L) :: ls => (okL M ∧ okL L) ∧ okS ls
theorem valL_k {N N' : Int → Int} (h : ∀ j, 0 ≤ j → j ≤ 12 → N j = N' j) : ∀ (ls : cLs) (i : Int), okS ls → valL N i ls = valL N' i ls
  | [], _, _ => rfl
  | (M, L) :: ls, i, o => by
    have e1 := evC_k h o.1.1
    have e2 := evC_k h o.1.2
    by_cases z : M = [] ∨ evC N M ≠ 0
    · rw [valL_y z, valL_y (by rw [← e1]; exact z), e2]
    · rw [valL_n z, valL_n (by rw [← e1]; exact z)]
      exact valL_k h ls (i + 1) o.2
theorem ln1_k {T : Int → Int} {p q : Int} {M L : List (Int × Int)} (a : ln1 T p q (M, L)) : okL M ∧ okL L := by
  rcases a with ⟨a1, a2, -⟩ | ⟨x, a1, -, a3⟩
  · have a1 : M = [] := a1
    rw [a1]
    exact ⟨trivial, cd_k a2⟩
  · exact ⟨cd_k a1, cd_k a3⟩
theorem lnT_k {T : Int → Int} : ∀ (ls : cLs) (p : Int), lnT T p ls → okS ls
  | [], _, _ => trivial
  | (M, L) :: ls, p, ⟨_, q, a, b⟩ => ⟨ln1_k a, lnT_k ls q b⟩
theorem Lns_k {T : Int → Int} {p : Int} : ∀ (ls : cLs), Lns T p ls → okS ls
  | [], h => h.elim
  | (M, L) :: ls, ⟨q, a, b⟩ => ⟨ln1_k a, lnT_k ls q b⟩
theorem tSay_k {T N N' : Int → Int} (h : ∀ j, 0 ≤ j → j ≤ 12 → N j = N' j) : tSay T N = tSay T N' := by
  by_cases e : ∃ ls, Lns T 0 ls
  · obtain ⟨ls, d⟩ := e
    rw [tSay_e d, tSay_e d]
    exact valL_k h ls 0 (Lns_k ls d)
  · unfold tSay
    rw [dif_neg e, dif_neg e]
-- the parts of a payment
def hel (a : Int) : Int := max 0 (min 2000000000 a)
theorem hel_b (a : Int) : 0 ≤ hel a ∧ hel a ≤ 2000000000 := by unfold hel; omega
theorem hel_w (a : Int) : w32 (hel a) = hel a := by
  have := hel_b a
  exact w32_id (by omega) (by omega)
noncomputable def vlF (V : vS) (H : Int → Prop) : Nat → Int → Int → Int
  | 0, _, _ => 0
  | n + 1, i, L => @ite Int (0 < L ∧ H i) (Classical.propDecidable _) (min L 10 * V 3 (V 6 i) + vlF V H n (i + 1) (L - min L 10)) (vlF V H n (i + 1) L)
theorem vlF_t {V : vS} {H : Int → Prop} {n : Nat} {i L : Int} (h : 0 < L ∧ H i) : vlF V H (n + 1) i L = min L 10 * V 3 (V 6 i) + vlF V H n (i + 1) (L - min L 10) := if_pos h
theorem vlF_f {V : vS} {H : Int → Prop} {n : Nat} {i L : Int} (h : ¬ (0 < L ∧ H i)) : vlF V H (n + 1) i L = vlF V H n (i + 1) L := if_neg h
theorem vlF_0 {V : vS} {H : Int → Prop} : ∀ (n : Nat) (i L : Int), L ≤ 0 → vlF V H n i L = 0
  | 0, _, _, _ => rfl
  | n + 1, i, L, h => by rw [vlF_f (fun z => by omega)]; exact vlF_0 n (i + 1) L h
theorem vlF_k {V W : vS} {H H' : Int → Prop} (e3 : ∀ j, W 3 j = V 3 j) (e6 : ∀ j, W 6 j = V 6 j) (eH : ∀ i, H' i ↔ H i) : ∀ (n : Nat) (i L : Int), vlF W H' n i L = vlF V H n i L
  | 0, _, _ => rfl
  | n + 1, i, L => by
    by_cases z : 0 < L ∧ H i
    · rw [vlF_t z, vlF_t ⟨z.1, (eH i).mpr z.2⟩, e6, e3, vlF_k e3 e6 eH n]
    · rw [vlF_f z, vlF_f (fun w => z ⟨w.1, (eH i).mp w.2⟩), vlF_k e3 e6 eH n]
theorem w64_3 (a b c : Int) : w64 (w64 (a + w64 b) + c) = w64 (a + (b + c)) := by unfold w64; omega
theorem w64_j (x : Int64) : w64 x.toInt = x.toInt := w64_id (jR x).1 (jR x).2
def cHl (V : vS) (f y t : Int) : Int → Prop := fun i => cHold V (V 6 i) (ldY y) t = f

theorem d9_0 {n : Nat} {X : aX} {h : aH} {P : Int → aH → Prop} {x0 : Int64} {a0 : Int} (S : wS h) (z0 : x0.toInt = a0) (H : P (w32 (max 0 (min 2000000000 a0))) h) : Pt (n + 1) X zM9 0 [some (.long x0), none] [] h (qI P) := by
  refine pt_lconst (c := 0) gx9_0 rfl (fun v1 h1 => ?_)
  refine pt_d (pt_ldc2_w (c := 2000000000) gx9_1 rfl (fun v2 h2 => ?_))
  refine pt_d (pt_1 (fun n d => r_lloadn gx9_4 rfl) ?_)
  refine pt_d (pt_lmin gx9_5 rfl h2 z0 (fun v3 h3 => ?_))
  refine pt_d (pt_lmax gx9_8 rfl h1 h3 (fun v4 h4 => ?_))
  refine pt_d (pt_l2i gx9_11 h4 (fun v5 h5 => ?_))
  exact pt_d (pt_iret gx9_12 ⟨_, rfl, by rw [h5]; exact H⟩)
theorem c_9 {n : Nat} {X : aX} {h : aH} {x0 : Int64} {a0 : Int} (S : wS h) (z0 : x0.toInt = a0) : Pt n X zM9 0 [some (.long x0), none] [] h (qI (fun y h' => h' = h ∧ y = hel a0)) := pt_d (d9_0 S z0 ⟨rfl, hel_w a0⟩)

theorem d10_0 {n : Nat} {X : aX} {h : aH} {P : Int → aH → Prop} {x1 x2 x3 x4 : Int32} {a1 a2 a3 a4 : Int} (S : wS h) (z1 : x1.toInt = a1) (z2 : x2.toInt = a2) (z3 : x3.toInt = a3) (z4 : x4.toInt = a4) (H : (∀ (w5 : Int64) (w8 : Int32) (u9_ : Option Value) (u10_ : Option Value), w5.toInt = 0 → w8.toInt = 0 → Pt n X zM10 9 [some (.ref 41), some (.int x1), some (.int x2), some (.int x3), some (.int x4), some (.long w5), none, some (.int x1), some (.int w8), u9_, u10_] [] h (qJ P))) : Pt (n + 1) X zM10 0 [some (.ref 41), some (.int x1), some (.int x2), some (.int x3), some (.int x4), none, none, none, none, none, none] [] h (qJ P) := by
  refine pt_lconst (c := 0) gx10_0 rfl (fun v1 h1 => ?_)
  refine pt_d (pt_1 (fun n d => r_lstore (L' := [some (.ref 41), some (.int x1), some (.int x2), some (.int x3), some (.int x4), some (.long v1), none, none, none, none, none]) gx10_1 rfl rfl) ?_)
  refine pt_d (pt_1 (fun n d => r_iloadn gx10_3 rfl) ?_)
  refine pt_d (pt_1 (fun n d => r_istore (L' := [some (.ref 41), some (.int x1), some (.int x2), some (.int x3), some (.int x4), some (.long v1), none, some (.int x1), none, none, none]) gx10_4 rfl rfl) ?_)
  refine pt_d (pt_iconst gx10_6 (fun v2 h2 => ?_))
  refine pt_d (pt_1 (fun n d => r_istore (L' := [some (.ref 41), some (.int x1), some (.int x2), some (.int x3), some (.int x4), some (.long v1), none, some (.int x1), some (.int v2), none, none]) gx10_7 rfl rfl) ?_)
  exact H v1 v2 _ _ h1 h2
theorem d10_9 {n : Nat} {X : aX} {h : aH} {P : Int → aH → Prop} {x1 x2 x3 x4 x7 x8 : Int32} {x5 : Int64} {a1 a2 a3 a4 a7 a8 a5 : Int} {u9 u10 : Option Value} (S : wS h) (z1 : x1.toInt = a1) (z2 : x2.toInt = a2) (z3 : x3.toInt = a3) (z4 : x4.toInt = a4) (z5 : x5.toInt = a5) (z7 : x7.toInt = a7) (z8 : x8.toInt = a8) (H : ((vw h 1 4 ≤ a8 → P a5 h) ∧ (a8 < vw h 1 4 → ((a7 ≤ 0 → P a5 h) ∧ (0 < a7 → (0 ≤ a8 → a8 < 150 → ((vw h 1 6 ≤ 200) ∧ ((¬ (cHold (vw h) (vw h 6 a8) (ldY a3) a4 = a2) → (∀ (w8 : Int32) (u9_ : Option Value) (u10_ : Option Value), w8.toInt = w32 (a8 + 1) → Pt n X zM10 9 [some (.ref 41), some (.int x1), some (.int x2), some (.int x3), some (.int x4), some (.long x5), none, some (.int x7), some (.int w8), u9_, u10_] [] h (qJ P))) ∧ ((cHold (vw h) (vw h 6 a8) (ldY a3) a4 = a2) → (0 ≤ vw h 6 a8 → vw h 6 a8 < 150 → (∀ (w5 : Int64) (w7 : Int32) (w8 : Int32) (u9_ : Option Value) (u10_ : Option Value), w5.toInt = w64 (a5 + (w64 ((min a7 10) * (vw h 3 (vw h 6 a8))))) → w7.toInt = w32 (a7 - (min a7 10)) → w8.toInt = w32 (a8 + 1) → Pt n X zM10 9 [some (.ref 41), some (.int x1), some (.int x2), some (.int x3), some (.int x4), some (.long w5), none, some (.int w7), some (.int w8), u9_, u10_] [] h (qJ P)))))))))))) : Pt (n + 1) X zM10 9 [some (.ref 41), some (.int x1), some (.int x2), some (.int x3), some (.int x4), some (.long x5), none, some (.int x7), some (.int x8), u9, u10] [] h (qJ P) := by
  refine pt_1 (fun n d => r_iload gx10_9 rfl) ?_
  refine pt_d (pt_1 (fun n d => r_aloadn gx10_11 rfl) ?_)
  refine pt_d (pt_getR gx10_12 S tr_41_0 ?_)
  refine pt_d (pt_getI (B := 4) gx10_15 S (fun v2 h2 => ?_))
  refine pt_d (pt_icmp_ge gx10_18 z8 h2 (fun e3 => ?_) (fun e3 => ?_))
  · have H := H.1 e3
    refine pt_d (pt_1 (fun n d => r_lload gx10_93 rfl) ?_)
    exact pt_d (pt_lret gx10_95 ⟨_, rfl, by rw [z5]; exact H⟩)
  · have H := H.2 e3
    refine pt_d (pt_1 (fun n d => r_iload gx10_21 rfl) ?_)
    refine pt_d (pt_if_le gx10_23 z7 (fun e4 => ?_) (fun e4 => ?_))
    · have H := H.1 e4
      refine pt_d (pt_1 (fun n d => r_lload gx10_93 rfl) ?_)
      exact pt_d (pt_lret gx10_95 ⟨_, rfl, by rw [z5]; exact H⟩)
    · have H := H.2 e4
      refine pt_d (pt_1 (fun n d => r_aloadn gx10_26 rfl) ?_)
      refine pt_d (pt_getR gx10_27 S tr_41_0 ?_)
      refine pt_d (pt_getR gx10_30 S tr_1_11 ?_)
      refine pt_d (pt_1 (fun n d => r_iload gx10_33 rfl) ?_)
      refine pt_d (pt_iald (N' := 150) gx10_35 S tl_6 z8 (fun v7 p7 q7 h7 => ?_))
      have H := H p7 q7
      refine pt_d (pt_1 (fun n d => r_istore (L' := [some (.ref 41), some (.int x1), some (.int x2), some (.int x3), some (.int x4), some (.long x5), none, some (.int x7), some (.int x8), some (.int v7), u10]) gx10_36 rfl rfl) ?_)
      refine pt_d (pt_1 (fun n d => r_aloadn gx10_38 rfl) ?_)
      refine pt_d (pt_1 (fun n d => r_iloadn gx10_39 rfl) ?_)
      refine pt_d (pt_1 (fun n d => r_iload gx10_40 rfl) ?_)
      refine pt_d (pt_1 (fun n d => r_iloadn gx10_42 rfl) ?_)
      refine pt_d (pt_1 (fun n d => r_iload gx10_43 rfl) ?_)
      obtain ⟨pr8, H⟩ := H
      refine pt_d (pt_virt (as := [.int x2, .int v7, .int x3, .int x4]) (r := []) gx10_45 rfl (show zmt[7]? = some zM7 from rfl) rfl rfl rfl rfl (c_7 S z2 h7 z3 z4 pr8) (kqP (fun v8 h8 => ?_)))
      show Pt _ _ _ 48 _ [.int v8] _ _
      refine pt_d (pt_ifB_eq gx10_48 h8 (fun e9 => ?_) (fun e9 => ?_))
      · have H := H.1 e9
        refine pt_d (pt_iinc (c := 1) gx10_87 rfl z8 (fun v10 h10 => ?_))
        show Pt _ _ _ _ [some (.ref 41), some (.int x1), some (.int x2), some (.int x3), some (.int x4), some (.long x5), none, some (.int x7), some (.int v10), some (.int v7), u10] [] _ _
        refine pt_d (pt_1 (fun n d => r_goto gx10_90) ?_)
        exact H v10 _ _ h10
      · have H := H.2 e9
        refine pt_d (pt_1 (fun n d => r_iload gx10_51 rfl) ?_)
        refine pt_d (pt_bipush gx10_53 (fun v11 h11 => ?_))
        refine pt_d (pt_min gx10_55 rfl z7 h11 (fun v12 h12 => ?_))
        refine pt_d (pt_1 (fun n d => r_istore (L' := [some (.ref 41), some (.int x1), some (.int x2), some (.int x3), some (.int x4), some (.long x5), none, some (.int x7), some (.int x8), some (.int v7), some (.int v12)]) gx10_58 rfl rfl) ?_)
        refine pt_d (pt_1 (fun n d => r_lload gx10_60 rfl) ?_)
        refine pt_d (pt_1 (fun n d => r_iload gx10_62 rfl) ?_)
        refine pt_d (pt_i2l gx10_64 h12 (fun v13 h13 => ?_))
        refine pt_d (pt_1 (fun n d => r_aloadn gx10_65 rfl) ?_)
        refine pt_d (pt_getR gx10_66 S tr_41_0 ?_)
        refine pt_d (pt_getR gx10_69 S tr_1_8 ?_)
        refine pt_d (pt_1 (fun n d => r_iload gx10_72 rfl) ?_)
        refine pt_d (pt_iald (N' := 150) gx10_74 S tl_3 h7 (fun v16 p16 q16 h16 => ?_))
        have H := H p16 q16
        refine pt_d (pt_i2l gx10_75 h16 (fun v17 h17 => ?_))
        refine pt_d (pt_lmul gx10_76 h13 h17 (fun v18 h18 => ?_))
        refine pt_d (pt_ladd gx10_77 z5 h18 (fun v19 h19 => ?_))
        refine pt_d (pt_1 (fun n d => r_lstore (L' := [some (.ref 41), some (.int x1), some (.int x2), some (.int x3), some (.int x4), some (.long v19), none, some (.int x7), some (.int x8), some (.int v7), some (.int v12)]) gx10_78 rfl rfl) ?_)
        refine pt_d (pt_1 (fun n d => r_iload gx10_80 rfl) ?_)
        refine pt_d (pt_1 (fun n d => r_iload gx10_82 rfl) ?_)
        refine pt_d (pt_isub gx10_84 z7 h12 (fun v20 h20 => ?_))
        refine pt_d (pt_1 (fun n d => r_istore (L' := [some (.ref 41), some (.int x1), some (.int x2), some (.int x3), some (.int x4), some (.long v19), none, some (.int v20), some (.int x8), some (.int v7), some (.int v12)]) gx10_85 rfl rfl) ?_)
        refine pt_d (pt_iinc (c := 1) gx10_87 rfl z8 (fun v21 h21 => ?_))
        show Pt _ _ _ _ [some (.ref 41), some (.int x1), some (.int x2), some (.int x3), some (.int x4), some (.long v19), none, some (.int v20), some (.int v21), some (.int v7), some (.int v12)] [] _ _
        refine pt_d (pt_1 (fun n d => r_goto gx10_90) ?_)
        exact H v19 v20 v21 _ _ h19 h20 h21
theorem l_10 {X : aX} {h : aH} {x1 x2 x3 x4 : Int32} {f y t : Int} (S : wS h) (h6 : vw h 1 6 ≤ 200) (h4 : vw h 1 4 ≤ 150) (z2 : x2.toInt = f) (z3 : x3.toInt = y) (z4 : x4.toInt = t) : ∀ (n : Nat) (x5 : Int64) (x7 x8 : Int32) (u9 u10 : Option Value) (i : Int), x8.toInt = i → 0 ≤ i → i ≤ 150 → Pt n X zM10 9 [some (.ref 41), some (.int x1), some (.int x2), some (.int x3), some (.int x4), some (.long x5), none, some (.int x7), some (.int x8), u9, u10] [] h (qJ (fun r h' => h' = h ∧ r = w64 (x5.toInt + vlF (vw h) (cHl (vw h) f y t) (vw h 1 4 - i).toNat i x7.toInt))) := by
  intro n
  induction n with
  | zero => exact fun _ _ _ _ _ _ _ _ _ => pt_z
  | succ n ih =>
    intro x5 x7 x8 u9 u10 i h8 i0 i1
    have r7 := iR x7
    refine d10_9 S rfl z2 z3 z4 rfl rfl h8 ⟨fun ge => ⟨rfl, ?_⟩, fun lt => ⟨fun l0 => ⟨rfl, ?_⟩, fun l1 _ _ => ⟨h6, fun nh w8 u9' u10' g8 => ?_, fun hh _ _ w5 w7 w8 u9' u10' g5 g7 g8 => ?_⟩⟩⟩
    · rw [show (vw h 1 4 - i).toNat = 0 by omega]
      show x5.toInt = w64 (x5.toInt + 0)
      rw [Int.add_zero, w64_j]
    · rw [vlF_0 _ _ _ l0, Int.add_zero, w64_j]
    · replace g8 := w_1 g8 (by omega) (by omega)
      refine pt_q (ih x5 x7 w8 u9' u10' (i + 1) g8 (by omega) (by omega)) ?_
      rintro v h' ⟨x, ex, p1, p2⟩
      refine ⟨x, ex, p1, ?_⟩
      rw [show (vw h 1 4 - i).toNat = (vw h 1 4 - (i + 1)).toNat + 1 by omega, vlF_f (H := cHl (vw h) f y t) (fun z => nh z.2)]
      exact p2
    · replace g8 := w_1 g8 (by omega) (by omega)
      rw [w32_id (by omega) (by omega)] at g7
      refine pt_q (ih w5 w7 w8 u9' u10' (i + 1) g8 (by omega) (by omega)) ?_
      rintro v h' ⟨x, ex, p1, p2⟩
      refine ⟨x, ex, p1, ?_⟩
      rw [show (vw h 1 4 - i).toNat = (vw h 1 4 - (i + 1)).toNat + 1 by omega, vlF_t (H := cHl (vw h) f y t) ⟨l1, hh⟩, p2, g5, g7, w64_3]
theorem c_10 {n : Nat} {X : aX} {h : aH} {x1 x2 x3 x4 : Int32} {a1 a2 a3 a4 : Int} (S : wS h) (z1 : x1.toInt = a1) (z2 : x2.toInt = a2) (z3 : x3.toInt = a3) (z4 : x4.toInt = a4) (hp : vw h 1 6 ≤ 200 ∧ vw h 1 4 ≤ 150) : Pt n X zM10 0 [some (.ref 41), some (.int x1), some (.int x2), some (.int x3), some (.int x4), none, none, none, none, none, none] [] h (qJ (fun y h' => h' = h ∧ y = w64 (vlF (vw h) (cHl (vw h) a2 a3 a4) (vw h 1 4).toNat 0 a1))) := by
  refine pt_d (d10_0 S z1 z2 z3 z4 (fun w5 w8 u9 u10 g5 g8 => ?_))
  refine pt_q (l_10 S hp.1 hp.2 z2 z3 z4 n w5 x1 w8 u9 u10 0 g8 (Int.le_refl _) (by decide)) ?_
  rintro v h' ⟨x, ex, p1, p2⟩
  refine ⟨x, ex, p1, ?_⟩
  rw [p2, g5, z1, Int.zero_add, Int.sub_zero]


-- ===== what a text says =====
theorem d269_0 {n : Nat} {X : aX} {h : aH} {P : Int → aH → Prop} {x1 : Int32} {a1 : Int} (S : wS h) (z1 : x1.toInt = a1) (H : (∀ (w2 : Int32) (w3 : Int32) (u4_ : Option Value), w2.toInt = 0 → w3.toInt = 0 → Pt n X zM269 4 [some (.ref 72), some (.int x1), some (.int w2), some (.int w3), u4_] [] h (qI P))) : Pt (n + 1) X zM269 0 [some (.ref 72), some (.int x1), none, none, none] [] h (qI P) := by
  refine pt_iconst gx269_0 (fun v1 h1 => ?_)
  refine pt_d (pt_1 (fun n d => r_istoren (L' := [some (.ref 72), some (.int x1), some (.int v1), none, none]) gx269_1 rfl rfl) ?_)
  refine pt_d (pt_iconst gx269_2 (fun v2 h2 => ?_))
  refine pt_d (pt_1 (fun n d => r_istoren (L' := [some (.ref 72), some (.int x1), some (.int v1), some (.int v2), none]) gx269_3 rfl rfl) ?_)
  exact H v1 v2 _ h1 h2
theorem d269_4 {n : Nat} {X : aX} {h : aH} {P : Int → aH → Prop} {x1 x2 x3 : Int32} {a1 a2 a3 : Int} {u4 : Option Value} (S : wS h) (z1 : x1.toInt = a1) (z2 : x2.toInt = a2) (z3 : x3.toInt = a3) (H : (0 ≤ a1 → a1 < 17 → ((vw h 119 a1 ≤ a3 → ∀ h_5 : aH, wS h_5 → vw h_5 = up (vw h) 72 71 (-1) → P 0 h_5) ∧ (a3 < vw h 119 a1 → (0 ≤ w32 ((w32 (90 * a1)) + a3) → w32 ((w32 (90 * a1)) + a3) < 1530 → ((vw h 120 (w32 ((w32 (90 * a1)) + a3)) = a2 → ∀ h_13 : aH, wS h_13 → vw h_13 = up (vw h) 72 71 a3 → ((pre268 (vw h_13) a1 (vw h 120 (w32 ((w32 (90 * a1)) + a3))) (vw h 121 (w32 ((w32 (90 * a1)) + a3)))) ∧ ∀ (y18 : Int) (h_18 : aH), (wS h_18 ∧ R268 (vw h_13) a1 (vw h 120 (w32 ((w32 (90 * a1)) + a3))) (vw h 121 (w32 ((w32 (90 * a1)) + a3))) y18 (vw h_18)) → P y18 h_18)) ∧ (vw h 120 (w32 ((w32 (90 * a1)) + a3)) ≠ a2 → ((pre268 (vw h) a1 a2 (vw h 120 (w32 ((w32 (90 * a1)) + a3)))) ∧ ∀ (y21 : Int) (h_21 : aH), (wS h_21 ∧ R268 (vw h) a1 a2 (vw h 120 (w32 ((w32 (90 * a1)) + a3))) y21 (vw h_21)) → ((y21 = 0 → (∀ (w2 : Int32) (w3 : Int32) (u4_ : Option Value), w2.toInt = vw h_21 121 (w32 ((w32 (90 * a1)) + a3)) → w3.toInt = w32 (a3 + 1) → Pt n X zM269 4 [some (.ref 72), some (.int x1), some (.int w2), some (.int w3), u4_] [] h_21 (qI P))) ∧ (y21 ≠ 0 → ∀ h_26 : aH, wS h_26 → vw h_26 = up (vw h_21) 72 71 a3 → ((pre268 (vw h_26) a1 (vw h_21 120 (w32 ((w32 (90 * a1)) + a3))) (vw h_21 121 (w32 ((w32 (90 * a1)) + a3)))) ∧ ∀ (y31 : Int) (h_31 : aH), (wS h_31 ∧ R268 (vw h_26) a1 (vw h_21 120 (w32 ((w32 (90 * a1)) + a3))) (vw h_21 121 (w32 ((w32 (90 * a1)) + a3))) y31 (vw h_31)) → P y31 h_31))))))))))) : Pt (n + 1) X zM269 4 [some (.ref 72), some (.int x1), some (.int x2), some (.int x3), u4] [] h (qI P) := by
  refine pt_1 (fun n d => r_iloadn gx269_4 rfl) ?_
  refine pt_d (pt_1 (fun n d => r_aloadn gx269_5 rfl) ?_)
  refine pt_d (pt_getR gx269_6 S tr_72_59 ?_)
  refine pt_d (pt_1 (fun n d => r_iloadn gx269_9 rfl) ?_)
  refine pt_d (pt_iald (N' := 17) gx269_10 S tl_119 z1 (fun v2 p2 q2 h2 => ?_))
  have H := H p2 q2
  refine pt_d (pt_icmp_ge gx269_11 z3 h2 (fun e3 => ?_) (fun e3 => ?_))
  · have H := H.1 e3
    refine pt_d (pt_1 (fun n d => r_aloadn gx269_88 rfl) ?_)
    refine pt_d (pt_iconst gx269_89 (fun v4 h4 => ?_))
    refine pt_d (pt_putI (B := 71) gx269_90 S h4 (fun h_5 S5 e5 => ?_))
    refine pt_d (pt_iconst gx269_93 (fun v6 h6 => ?_))
    have H := H h_5 S5 (by rw [e5])
    exact pt_d (pt_iret gx269_94 ⟨_, rfl, by rw [h6]; exact H⟩)
  · have H := H.2 e3
    refine pt_d (pt_bipush gx269_14 (fun v7 h7 => ?_))
    refine pt_d (pt_1 (fun n d => r_iloadn gx269_16 rfl) ?_)
    refine pt_d (pt_imul gx269_17 h7 z1 (fun v8 h8 => ?_))
    refine pt_d (pt_1 (fun n d => r_iloadn gx269_18 rfl) ?_)
    refine pt_d (pt_iadd gx269_19 h8 z3 (fun v9 h9 => ?_))
    refine pt_d (pt_1 (fun n d => r_istore (L' := [some (.ref 72), some (.int x1), some (.int x2), some (.int x3), some (.int v9)]) gx269_20 rfl rfl) ?_)
    refine pt_d (pt_1 (fun n d => r_aloadn gx269_22 rfl) ?_)
    refine pt_d (pt_getR gx269_23 S tr_72_60 ?_)
    refine pt_d (pt_1 (fun n d => r_iload gx269_26 rfl) ?_)
    refine pt_d (pt_iald (N' := 1530) gx269_28 S tl_120 h9 (fun v11 p11 q11 h11 => ?_))
    have H := H p11 q11
    refine pt_d (pt_1 (fun n d => r_iloadn gx269_29 rfl) ?_)
    refine pt_d (pt_icmp_eq gx269_30 h11 z2 (fun e12 => ?_) (fun e12 => ?_))
    · have H := H.1 e12
      refine pt_d (pt_1 (fun n d => r_aloadn gx269_49 rfl) ?_)
      refine pt_d (pt_1 (fun n d => r_iloadn gx269_50 rfl) ?_)
      refine pt_d (pt_putI (B := 71) gx269_51 S z3 (fun h_13 S13 e13 => ?_))
      refine pt_d (pt_1 (fun n d => r_aloadn gx269_54 rfl) ?_)
      refine pt_d (pt_1 (fun n d => r_iloadn gx269_55 rfl) ?_)
      refine pt_d (pt_1 (fun n d => r_aloadn gx269_56 rfl) ?_)
      refine pt_d (pt_getR gx269_57 S13 tr_72_60 ?_)
      refine pt_d (pt_1 (fun n d => r_iload gx269_60 rfl) ?_)
      refine pt_d (pt_iald (N' := 1530) gx269_62 S13 tl_120 h9 (fun v15 p15 q15 h15 => ?_))
      have h15 : v15.toInt = vw h 120 (w32 ((w32 (90 * a1)) + a3)) := by rw [h15, e13, up_c (by decide)]
      refine pt_d (pt_1 (fun n d => r_aloadn gx269_63 rfl) ?_)
      refine pt_d (pt_getR gx269_64 S13 tr_72_61 ?_)
      refine pt_d (pt_1 (fun n d => r_iload gx269_67 rfl) ?_)
      refine pt_d (pt_iald (N' := 1530) gx269_69 S13 tl_121 h9 (fun v17 p17 q17 h17 => ?_))
      have h17 : v17.toInt = vw h 121 (w32 ((w32 (90 * a1)) + a3)) := by rw [h17, e13, up_c (by decide)]
      have H := H h_13 S13 (by rw [e13])
      obtain ⟨pr18, H⟩ := H
      refine pt_d (pt_virt (as := [.int x1, .int v15, .int v17]) (r := []) gx269_70 rfl (show zmt[268]? = some zM268 from rfl) rfl rfl rfl rfl (c_268 S13 z1 h15 h17 pr18) (kqI (fun v18 y18 h_18 h18 P18 => ?_)))
      have S18 := P18.1
      have H := H y18 h_18 P18
      show Pt _ _ _ 73 _ [.int v18] _ _
      exact pt_d (pt_iret gx269_73 ⟨_, rfl, by rw [h18]; exact H⟩)
    · have H := H.2 e12
      refine pt_d (pt_1 (fun n d => r_aloadn gx269_33 rfl) ?_)
      refine pt_d (pt_1 (fun n d => r_iloadn gx269_34 rfl) ?_)
      refine pt_d (pt_1 (fun n d => r_iloadn gx269_35 rfl) ?_)
      refine pt_d (pt_1 (fun n d => r_aloadn gx269_36 rfl) ?_)
      refine pt_d (pt_getR gx269_37 S tr_72_60 ?_)
      refine pt_d (pt_1 (fun n d => r_iload gx269_40 rfl) ?_)
      refine pt_d (pt_iald (N' := 1530) gx269_42 S tl_120 h9 (fun v20 p20 q20 h20 => ?_))
      obtain ⟨pr21, H⟩ := H
      refine pt_d (pt_virt (as := [.int x1, .int x2, .int v20]) (r := []) gx269_43 rfl (show zmt[268]? = some zM268 from rfl) rfl rfl rfl rfl (c_268 S z1 z2 h20 pr21) (kqI (fun v21 y21 h_21 h21 P21 => ?_)))
      have S21 := P21.1
      have H := H y21 h_21 P21
      show Pt _ _ _ 46 _ [.int v21] _ _
      refine pt_d (pt_if_eq gx269_46 h21 (fun e22 => ?_) (fun e22 => ?_))
      · have H := H.1 e22
        refine pt_d (pt_1 (fun n d => r_aloadn gx269_74 rfl) ?_)
        refine pt_d (pt_getR gx269_75 S21 tr_72_61 ?_)
        refine pt_d (pt_1 (fun n d => r_iload gx269_78 rfl) ?_)
        refine pt_d (pt_iald (N' := 1530) gx269_80 S21 tl_121 h9 (fun v24 p24 q24 h24 => ?_))
        refine pt_d (pt_1 (fun n d => r_istoren (L' := [some (.ref 72), some (.int x1), some (.int v24), some (.int x3), some (.int v9)]) gx269_81 rfl rfl) ?_)
        refine pt_d (pt_iinc (c := 1) gx269_82 rfl z3 (fun v25 h25 => ?_))
        show Pt _ _ _ _ [some (.ref 72), some (.int x1), some (.int v24), some (.int v25), some (.int v9)] [] _ _
        refine pt_d (pt_1 (fun n d => r_goto gx269_85) ?_)
        exact H v24 v25 _ h24 h25
      · have H := H.2 e22
        refine pt_d (pt_1 (fun n d => r_aloadn gx269_49 rfl) ?_)
        refine pt_d (pt_1 (fun n d => r_iloadn gx269_50 rfl) ?_)
        refine pt_d (pt_putI (B := 71) gx269_51 S21 z3 (fun h_26 S26 e26 => ?_))
        refine pt_d (pt_1 (fun n d => r_aloadn gx269_54 rfl) ?_)
        refine pt_d (pt_1 (fun n d => r_iloadn gx269_55 rfl) ?_)
        refine pt_d (pt_1 (fun n d => r_aloadn gx269_56 rfl) ?_)
        refine pt_d (pt_getR gx269_57 S26 tr_72_60 ?_)
        refine pt_d (pt_1 (fun n d => r_iload gx269_60 rfl) ?_)
        refine pt_d (pt_iald (N' := 1530) gx269_62 S26 tl_120 h9 (fun v28 p28 q28 h28 => ?_))
        have h28 : v28.toInt = vw h_21 120 (w32 ((w32 (90 * a1)) + a3)) := by rw [h28, e26, up_c (by decide)]
        refine pt_d (pt_1 (fun n d => r_aloadn gx269_63 rfl) ?_)
        refine pt_d (pt_getR gx269_64 S26 tr_72_61 ?_)
        refine pt_d (pt_1 (fun n d => r_iload gx269_67 rfl) ?_)
        refine pt_d (pt_iald (N' := 1530) gx269_69 S26 tl_121 h9 (fun v30 p30 q30 h30 => ?_))
        have h30 : v30.toInt = vw h_21 121 (w32 ((w32 (90 * a1)) + a3)) := by rw [h30, e26, up_c (by decide)]
        have H := H h_26 S26 (by rw [e26])
        obtain ⟨pr31, H⟩ := H
        refine pt_d (pt_virt (as := [.int x1, .int v28, .int v30]) (r := []) gx269_70 rfl (show zmt[268]? = some zM268 from rfl) rfl rfl rfl rfl (c_268 S26 z1 h28 h30 pr31) (kqI (fun v31 y31 h_31 h31 P31 => ?_)))
        have S31 := P31.1
        have H := H y31 h_31 P31
        show Pt _ _ _ 73 _ [.int v31] _ _
        exact pt_d (pt_iret gx269_73 ⟨_, rfl, by rw [h31]; exact H⟩)
-- a text's lines as they lie
def lAtR (V : vS) (t : Int) : Int → Int → cLs → Prop
  | _, i, [] => V 119 t = i
  | b, i, (M, L) :: ls => (V 120 (90 * t + i) = b + (M.length : Int) ∧ V 121 (90 * t + i) = b + (M.length : Int) + (L.length : Int) ∧ b + (M.length : Int) + (L.length : Int) ≤ 170 ∧ cAt V (170 * t + b) (M ++ L)) ∧ lAtR V t (b + (M.length : Int) + (L.length : Int)) (i + 1) ls
theorem lAtR_n {V : vS} {t : Int} : ∀ (ls : cLs) (b i : Int), lAtR V t b i ls → V 119 t = i + (ls.length : Int)
  | [], b, i, h => by
    have h : V 119 t = i := h
    show V 119 t = i + ((0 : Nat) : Int)
    omega
  | (M, L) :: ls, b, i, h => by
    have := lAtR_n ls _ _ h.2
    show V 119 t = i + ((ls.length + 1 : Nat) : Int)
    omega
theorem lAtR_k {V W : vS} {t : Int} : ∀ (ls : cLs) (b i : Int), W 119 t = V 119 t → (∀ j, i ≤ j → j < V 119 t → W 120 (90 * t + j) = V 120 (90 * t + j) ∧ W 121 (90 * t + j) = V 121 (90 * t + j)) → (∀ j, j < 170 * t + 170 → W 122 j = V 122 j ∧ W 123 j = V 123 j) → lAtR V t b i ls → lAtR W t b i ls
  | [], _, _, e, _, _, h => e.trans h
  | (M, L) :: ls, b, i, e, e1, e2, h => by
    have n := lAtR_n ls _ _ h.2
    obtain ⟨⟨h1, h2, h3, h4⟩, h5⟩ := h
    have k := e1 i (Int.le_refl _) (by omega)
    refine ⟨⟨k.1.trans h1, k.2.trans h2, h3, cAt_k _ _ (fun j u v => e2 j ?_) h4⟩, lAtR_k ls _ _ e (fun j u v => e1 j (by omega) v) e2 h5⟩
    rw [List.length_append] at v
    omega
def gdL (N : Int → Int) : cLs → Prop
  | [] => True
  | (M, L) :: ls => (M = [] ∨ oneC N M) ∧ oneC N L ∧ gdL N ls
theorem ln1_g {T N : Int → Int} {p q : Int} {M L : List (Int × Int)} (a : ln1 T p q (M, L)) : (M = [] ∨ oneC N M) ∧ oneC N L := by
  rcases a with ⟨a1, a2, -⟩ | ⟨x, a1, -, a3⟩
  · exact ⟨Or.inl a1, cd_r a2 N⟩
  · exact ⟨Or.inr (cd_r a1 N), cd_r a3 N⟩
theorem lnT_g {T N : Int → Int} : ∀ (ls : cLs) (p : Int), lnT T p ls → gdL N ls
  | [], _, _ => trivial
  | (M, L) :: ls, p, ⟨_, q, a, b⟩ => ⟨(ln1_g a).1, (ln1_g a).2, lnT_g ls q b⟩
theorem Lns_g {T N : Int → Int} {p : Int} : ∀ (ls : cLs), Lns T p ls → gdL N ls
  | [], h => h.elim
  | (M, L) :: ls, ⟨q, a, b⟩ => ⟨(ln1_g a).1, (ln1_g a).2, lnT_g ls q b⟩
theorem l_269 {X : aX} {x1 : Int32} {t : Int} (h1 : x1.toInt = t) (t0 : 0 ≤ t ∧ t ≤ 15) : ∀ (n : Nat) (h : aH) (x2 x3 : Int32) (u4 : Option Value) (b i : Int) (ls : cLs), wS h → x2.toInt = b → x3.toInt = i → 0 ≤ b → 0 ≤ i → vw h 119 t ≤ 90 → lAtR (vw h) t b i ls → gdL (fun j => vw h 124 j) ls → Pt n X zM269 4 [some (.ref 72), some (.int x1), some (.int x2), some (.int x3), u4] [] h (qI (fun y h' => wS h' ∧ y = (valL (fun j => vw h 124 j) i ls).1 ∧ vw h' 72 71 = (valL (fun j => vw h 124 j) i ls).2 ∧ ∀ c j, c ≠ 125 → (c = 72 → j ≠ 71) → vw h' c j = vw h c j)) := by
  intro n
  induction n with
  | zero => exact fun _ _ _ _ _ _ _ _ _ _ _ _ _ _ _ => pt_z
  | succ n ih =>
    intro h x2 x3 u4 b i ls S h2 h3 b0 i0 hn A G
    have len := lAtR_n ls b i A
    have up_fr7 : ∀ (V : vS) (v : Int) (c : Nat) (j : Int), (c = 72 → j ≠ 71) → up V 72 71 v c j = V c j := fun V v c j z => by
      by_cases w : c = 72
      · subst w
        exact up_j (z rfl)
      · exact up_c w
    refine d269_4 S h1 h2 h3 (fun _ _ => ⟨fun ge g S2 eg => ?_, fun lt j0 j1 => ?_⟩)
    · cases ls with
      | cons l ls =>
        have len : vw h 119 t = i + ((ls.length + 1 : Nat) : Int) := len
        omega
      | nil => exact ⟨S2, rfl, by rw [eg, up_s]; rfl, fun c j _ z => by rw [eg]; exact up_fr7 _ _ c j z⟩
    · cases ls with
      | nil =>
        have len : vw h 119 t = i + ((0 : Nat) : Int) := len
        omega
      | cons l ls =>
        obtain ⟨M, L⟩ := l
        obtain ⟨⟨a1, a2, a3, a4⟩, a5⟩ := A
        obtain ⟨g1, g2, g3⟩ := G
        have ej : w32 (w32 (90 * t) + i) = 90 * t + i := by rw [w32_id (z := 90 * t) (by omega) (by omega), w32_id (by omega) (by omega)]
        rw [ej, a1, a2]
        rw [cAt_a] at a4
        obtain ⟨cM, cL⟩ := a4
        have eL : 170 * t + b + (M.length : Int) = 170 * t + (b + (M.length : Int)) := by omega
        rw [eL] at cL
        obtain ⟨r, hr⟩ := g2 []
        -- the line's number
        have last : ∀ (g g' : aH) (y : Int), (∀ c j, c ≠ 125 → (c = 72 → j ≠ 71) → vw g c j = vw h c j) → vw g 72 71 = i → (wS g' ∧ R268 (vw g) t (b + (M.length : Int)) (b + (M.length : Int) + (L.length : Int)) y (vw g')) → wS g' ∧ y = evC (fun j => vw h 124 j) L ∧ vw g' 72 71 = i ∧ ∀ c j, c ≠ 125 → (c = 72 → j ≠ 71) → vw g' c j = vw h c j := by
          intro g g' y F e71 k
          have k1 := k.2.1 L rfl (cAt_k L _ (fun j _ _ => ⟨F 122 j (by decide) (fun z => absurd z (by decide)), F 123 j (by decide) (fun z => absurd z (by decide))⟩) cL)
          have eN : (fun j => vw g 124 j) = fun j => vw h 124 j := funext fun j => F 124 j (by decide) (fun z => absurd z (by decide))
          rw [eN] at k1
          exact ⟨k.1, k1, (k.2.2 72 71 (by decide)).trans e71, fun c j c1 c2 => (k.2.2 c j c1).trans (F c j c1 c2)⟩
        have preL : ∀ g : aH, (∀ c j, c ≠ 125 → (c = 72 → j ≠ 71) → vw g c j = vw h c j) → pre268 (vw g) t (b + (M.length : Int)) (b + (M.length : Int) + (L.length : Int)) := fun g F => by
          have eN : (fun j => vw g 124 j) = fun j => vw h 124 j := funext fun j => F 124 j (by decide) (fun z => absurd z (by decide))
          exact ⟨t0, ⟨by omega, a3⟩, L, rfl, cAt_k L _ (fun j _ _ => ⟨F 122 j (by decide) (fun z => absurd z (by decide)), F 123 j (by decide) (fun z => absurd z (by decide))⟩) cL, r, by rw [eN]; exact hr⟩
        refine ⟨fun e g S2 eg => ?_, fun ne => ?_⟩
        · have m0 : M = [] := by
            cases M with
            | nil => rfl
            | cons z M =>
              have e : b + ((M.length + 1 : Nat) : Int) = b := e
              omega
          have F : ∀ c j, c ≠ 125 → (c = 72 → j ≠ 71) → vw g c j = vw h c j := fun c j _ z => by rw [eg]; exact up_fr7 _ _ c j z
          refine ⟨preL g F, fun y18 h18 k18 => ?_⟩
          rw [valL_y (Or.inl m0)]
          exact last g h18 y18 F (by rw [eg, up_s]) k18
        · have m0 : M ≠ [] := fun e => ne (by rw [e]; show b + ((0 : Nat) : Int) = b; omega)
          have gM : oneC (fun j => vw h 124 j) M := g1.elim (fun e => absurd e m0) id
          obtain ⟨rM, hM⟩ := gM []
          refine ⟨⟨t0, ⟨b0, by omega⟩, M, rfl, cM, rM, hM⟩, fun y21 h21 k21 => ?_⟩
          have ev := k21.2.1 M rfl cM
          have F21 : ∀ c j, c ≠ 125 → (c = 72 → j ≠ 71) → vw h21 c j = vw h c j := fun c j c1 _ => k21.2.2 c j c1
          have e121 : vw h21 121 (90 * t + i) = b + (M.length : Int) + (L.length : Int) := (k21.2.2 121 _ (by decide)).trans a2
          have e120 : vw h21 120 (90 * t + i) = b + (M.length : Int) := (k21.2.2 120 _ (by decide)).trans a1
          have eN : (fun j => vw h21 124 j) = fun j => vw h 124 j := funext fun j => k21.2.2 124 j (by decide)
          rw [e121, e120]
          refine ⟨fun y0 w2 w3 u4' g2' g3' => ?_, fun y0 g S2 eg => ?_⟩
          · replace g3' := w_1 g3' (by omega) (by omega)
            refine pt_q (ih h21 w2 w3 u4' _ (i + 1) ls k21.1 g2' g3' (by omega) (by omega) (by rw [k21.2.2 119 t (by decide)]; exact hn) (lAtR_k ls _ _ (k21.2.2 119 t (by decide)) (fun j _ _ => ⟨k21.2.2 120 _ (by decide), k21.2.2 121 _ (by decide)⟩) (fun j _ => ⟨k21.2.2 122 j (by decide), k21.2.2 123 j (by decide)⟩) a5) (by rw [eN]; exact g3)) ?_
            rintro v h' ⟨x, ex, p1, p2, p3, p4⟩
            rw [eN] at p2 p3
            rw [valL_n (fun w => w.elim m0 (fun w => w (by rw [← ev]; exact y0)))]
            exact ⟨x, ex, p1, p2, p3, fun c j c1 c2 => (p4 c j c1 c2).trans (F21 c j c1 c2)⟩
          · have F : ∀ c j, c ≠ 125 → (c = 72 → j ≠ 71) → vw g c j = vw h c j := fun c j c1 z => by rw [eg, up_fr7 _ _ c j z]; exact F21 c j c1 z
            refine ⟨preL g F, fun y31 h31 k31 => ?_⟩
            rw [valL_y (Or.inr (by rw [← ev]; exact y0))]
            exact last g h31 y31 F (by rw [eg, up_s]) k31
def pre269 (V : vS) (t : Int) : Prop := (0 ≤ t ∧ t ≤ 15) ∧ V 119 t ≤ 90 ∧ ∃ ls, Lns (oT V t) 0 ls ∧ lAtR V t 0 0 ls
def R269 (V : vS) (t y : Int) (V' : vS) : Prop := y = (tSay (oT V t) (fun j => V 124 j)).1 ∧ V' 72 71 = (tSay (oT V t) (fun j => V 124 j)).2 ∧ ∀ c j, c ≠ 125 → (c = 72 → j ≠ 71) → V' c j = V c j
theorem c_269 {n : Nat} {X : aX} {h : aH} {x1 : Int32} {a1 : Int} (S : wS h) (z1 : x1.toInt = a1) (hp : pre269 (vw h) a1) : Pt n X zM269 0 [some (.ref 72), some (.int x1), none, none, none] [] h (qI (fun y h' => wS h' ∧ R269 (vw h) a1 y (vw h'))) := by
  obtain ⟨t0, hn, ls, D, A⟩ := hp
  refine pt_d (d269_0 S z1 (fun w2 w3 u4 g2 g3 => ?_))
  refine pt_q (l_269 z1 t0 n h w2 w3 u4 0 0 ls S g2 g3 (Int.le_refl _) (Int.le_refl _) hn A (Lns_g ls D)) ?_
  rintro v h' ⟨x, ex, p1, p2, p3, p4⟩
  refine ⟨x, ex, p1, ?_, ?_, p4⟩
  · rw [tSay_e D]
    exact p2
  · rw [tSay_e D]
    exact p3


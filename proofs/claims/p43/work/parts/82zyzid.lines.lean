-- ===== 82zyzid.lines: 6 texts =====
section
-- ===== what a text says =====
theorem d269_0 {n : Nat} {X : aX} {h : aH} {P : Int → aH → Prop} {x1 : Int32} {a1 : Int} (S : wS h) (z1 : x1.toInt = a1) (H : (∀ (w2 : Int32) (w3 : Int32) (u4_ : Option Value), w2.toInt = 0 → w3.toInt = 0 → Pt n X zM269 4 [some (.ref 72), some (.int x1), some (.int w2), some (.int w3), u4_] [] h (qI P))) : Pt (n + 1) X zM269 0 [some (.ref 72), some (.int x1), none, none, none] [] h (qI P) := by
  refine pt_iconst gx269_0 (fun v1 h1 => ?_)
  refine pt_d (pt_1 (fun n d => r_istoren (L' := [some (.ref 72), some (.int x1), some (.int v1), none, none]) gx269_1 rfl rfl) ?_)
  refine pt_d (pt_iconst gx269_2 (fun v2 h2 => ?_))
  refine pt_d (pt_1 (fun n d => r_istoren (L' := [some (.ref 72), some (.int x1), some (.int v1), some (.int v2), none]) gx269_3 rfl rfl) ?_)
  exact H v1 v2 _ h1 h2
theorem d269_4 {n : Nat} {X : aX} {h : aH} {P : Int → aH → Prop} {x1 x2 x3 : Int32} {a1 a2 a3 : Int} {u4 : Option Value} (S : wS h) (z1 : x1.toInt = a1) (z2 : x2.toInt = a2) (z3 : x3.toInt = a3) (H : (0 ≤ a1 → a1 < 17 → ((vw h 119 a1 ≤ a3 → ∀ h_5 : aH, wS h_5 → vw h_5 = up (vw h) 72 71 (-1) → P 0 h_5) ∧ (a3 < vw h 119 a1 → (0 ≤ w32 ((w32 (90 * a1)) + a3) → w32 ((w32 (90 * a1)) + a3) < 1530 → ((vw h 120 (w32 ((w32 (90 * a1)) + a3)) = a2 → ∀ h_13 : aH, wS h_13 → vw h_13 = up (vw h) 72 71 a3 → ((pre268 (vw h_13) a1 (vw h 120 (w32 ((w32 (90 * a1)) + a3))) (vw h 121 (w32 ((w32 (90 * a1)) + a3)))) ∧ ∀ (y18 : Int) (h_18 : aH), (wS h_18 ∧ R268 (vw h_13) a1 (vw h 120 (w32 ((w32 (90 * a1)) + a3))) (vw h 121 (w32 ((w32 (90 * a1)) + a3))) y18 (vw h_18)) → P y18 h_18)) ∧ (vw h 120 (w32 ((w32 (90 * a1)) + a3)) ≠ a2 → ((pre268 (vw h) a1 a2 (vw h 120 (w32 ((w32 (90 * a1)) + a3)))) ∧ ∀ (y21 : Int) (h_21 : aH), (wS h_21 ∧ R268 (vw h) a1 a2 (vw h 120 (w32 ((w32 (90 * a1)) + a3))) y21 (vw h_21)) → ((y21 = 0 → (∀ (w2 : Int32) (w3 : Int32) (u4_ : Option Value), w2.toInt = vw h_21 121 (w32 ((w32 (90 * a1)) + a3)) → w3.toInt = w32 (a3 + 1) → Pt n X zM269 4 [some (.ref 72), some (.int x1), some (.int w2), some (.int w3), u4_] [] h_21 (qI P))) ∧ (y21 ≠ 0 → ∀ h_26 : aH, wS h_26 → vw h_26 = up (vw h_21) 72 71 a3 → ((pre268 (vw h_26) a1 (vw h_21 120 (w32 ((w32 (90 * a1)) + a3))) (vw h_21 121 (w32 ((w32 (90 * a1)) + a3)))) ∧ ∀ (y31 : Int) (h_31 : aH), (wS h_31 ∧ R268 (vw h_26) a1 (vw h_21 120 (w32 ((w32 (90 * a1)) + a3))) (vw h_21 121 (w32 ((w32 (90 * a1)) + a3))) y31 (vw h_31)) → P y31 h_31))))))))))) : Pt (n + 1) X zM269 4 [some (.ref 72), some (.int x1), some (.int x2), some (.int x3), u4] [] h (qI P) := by
  refine pt_1 (fun n d => r_iloadn gx269_4 rfl) ?_
  refine pt_d (pt_1 (fun n d => r_aloadn gx269_5 rfl) ?_)
  refine pt_d (pt_getR gx269_6 S tr_72_59 ?_)
  refine pt_d (pt_1 (fun n d => r_iloadn gx269_9 rfl) ?_)
  refine pt_d (pt_iald (N' := 17) gx269_10 S tl_119 z1 (fun v2 p2 q2 h2 => ?_))
  have H := H p2 q2
  refine pt_d (pt_icmp_ge gx269_11 z3 h2 (fun e3 => ?_) (fun e3 => ?_))
  · have H := H.1 e3
    refine pt_d (pt_1 (fun n d => r_aloadn gx269_88 rfl) ?_)
    refine pt_d (pt_iconst gx269_89 (fun v4 h4 => ?_))
    refine pt_d (pt_putI (B := 71) gx269_90 S h4 (fun h_5 S5 e5 => ?_))
    refine pt_d (pt_iconst gx269_93 (fun v6 h6 => ?_))
    have H := H h_5 S5 (by rw [e5])
    exact pt_d (pt_iret gx269_94 ⟨_, rfl, by rw [h6]; exact H⟩)
  · have H := H.2 e3
    refine pt_d (pt_bipush gx269_14 (fun v7 h7 => ?_))
    refine pt_d (pt_1 (fun n d => r_iloadn gx269_16 rfl) ?_)
    refine pt_d (pt_imul gx269_17 h7 z1 (fun v8 h8 => ?_))
    refine pt_d (pt_1 (fun n d => r_iloadn gx269_18 rfl) ?_)
    refine pt_d (pt_iadd gx269_19 h8 z3 (fun v9 h9 => ?_))
    refine pt_d (pt_1 (fun n d => r_istore (L' := [some (.ref 72), some (.int x1), some (.int x2), some (.int x3), some (.int v9)]) gx269_20 rfl rfl) ?_)
    refine pt_d (pt_1 (fun n d => r_aloadn gx269_22 rfl) ?_)
    refine pt_d (pt_getR gx269_23 S tr_72_60 ?_)
    refine pt_d (pt_1 (fun n d => r_iload gx269_26 rfl) ?_)
    refine pt_d (pt_iald (N' := 1530) gx269_28 S tl_120 h9 (fun v11 p11 q11 h11 => ?_))
    have H := H p11 q11
    refine pt_d (pt_1 (fun n d => r_iloadn gx269_29 rfl) ?_)
    refine pt_d (pt_icmp_eq gx269_30 h11 z2 (fun e12 => ?_) (fun e12 => ?_))
    · have H := H.1 e12
      refine pt_d (pt_1 (fun n d => r_aloadn gx269_49 rfl) ?_)
      refine pt_d (pt_1 (fun n d => r_iloadn gx269_50 rfl) ?_)
      refine pt_d (pt_putI (B := 71) gx269_51 S z3 (fun h_13 S13 e13 => ?_))
      refine pt_d (pt_1 (fun n d => r_aloadn gx269_54 rfl) ?_)
      refine pt_d (pt_1 (fun n d => r_iloadn gx269_55 rfl) ?_)
      refine pt_d (pt_1 (fun n d => r_aloadn gx269_56 rfl) ?_)
      refine pt_d (pt_getR gx269_57 S13 tr_72_60 ?_)
      refine pt_d (pt_1 (fun n d => r_iload gx269_60 rfl) ?_)
      refine pt_d (pt_iald (N' := 1530) gx269_62 S13 tl_120 h9 (fun v15 p15 q15 h15 => ?_))
      have h15 : v15.toInt = vw h 120 (w32 ((w32 (90 * a1)) + a3)) := by rw [h15, e13, up_c (by decide)]
      refine pt_d (pt_1 (fun n d => r_aloadn gx269_63 rfl) ?_)
      refine pt_d (pt_getR gx269_64 S13 tr_72_61 ?_)
      refine pt_d (pt_1 (fun n d => r_iload gx269_67 rfl) ?_)
      refine pt_d (pt_iald (N' := 1530) gx269_69 S13 tl_121 h9 (fun v17 p17 q17 h17 => ?_))
      have h17 : v17.toInt = vw h 121 (w32 ((w32 (90 * a1)) + a3)) := by rw [h17, e13, up_c (by decide)]
      have H := H h_13 S13 (by rw [e13])
      obtain ⟨pr18, H⟩ := H
      refine pt_d (pt_virt (as := [.int x1, .int v15, .int v17]) (r := []) gx269_70 rfl (show zmt[268]? = some zM268 from rfl) rfl rfl rfl rfl (c_268 S13 z1 h15 h17 pr18) (kqI (fun v18 y18 h_18 h18 P18 => ?_)))
      have S18 := P18.1
      have H := H y18 h_18 P18
      show Pt _ _ _ 73 _ [.int v18] _ _
      exact pt_d (pt_iret gx269_73 ⟨_, rfl, by rw [h18]; exact H⟩)
    · have H := H.2 e12
      refine pt_d (pt_1 (fun n d => r_aloadn gx269_33 rfl) ?_)
      refine pt_d (pt_1 (fun n d => r_iloadn gx269_34 rfl) ?_)
      refine pt_d (pt_1 (fun n d => r_iloadn gx269_35 rfl) ?_)
      refine pt_d (pt_1 (fun n d => r_aloadn gx269_36 rfl) ?_)
      refine pt_d (pt_getR gx269_37 S tr_72_60 ?_)
      refine pt_d (pt_1 (fun n d => r_iload gx269_40 rfl) ?_)
      refine pt_d (pt_iald (N' := 1530) gx269_42 S tl_120 h9 (fun v20 p20 q20 h20 => ?_))
      obtain ⟨pr21, H⟩ := H
      refine pt_d (pt_virt (as := [.int x1, .int x2, .int v20]) (r := []) gx269_43 rfl (show zmt[268]? = some zM268 from rfl) rfl rfl rfl rfl (c_268 S z1 z2 h20 pr21) (kqI (fun v21 y21 h_21 h21 P21 => ?_)))
      have S21 := P21.1
      have H := H y21 h_21 P21
      show Pt _ _ _ 46 _ [.int v21] _ _
      refine pt_d (pt_if_eq gx269_46 h21 (fun e22 => ?_) (fun e22 => ?_))
      · have H := H.1 e22
        refine pt_d (pt_1 (fun n d => r_aloadn gx269_74 rfl) ?_)
        refine pt_d (pt_getR gx269_75 S21 tr_72_61 ?_)
        refine pt_d (pt_1 (fun n d => r_iload gx269_78 rfl) ?_)
        refine pt_d (pt_iald (N' := 1530) gx269_80 S21 tl_121 h9 (fun v24 p24 q24 h24 => ?_))
        refine pt_d (pt_1 (fun n d => r_istoren (L' := [some (.ref 72), some (.int x1), some (.int v24), some (.int x3), some (.int v9)]) gx269_81 rfl rfl) ?_)
        refine pt_d (pt_iinc (c := 1) gx269_82 rfl z3 (fun v25 h25 => ?_))
        show Pt _ _ _ _ [some (.ref 72), some (.int x1), some (.int v24), some (.int v25), some (.int v9)] [] _ _
        refine pt_d (pt_1 (fun n d => r_goto gx269_85) ?_)
        exact H v24 v25 _ h24 h25
      · have H := H.2 e22
        refine pt_d (pt_1 (fun n d => r_aloadn gx269_49 rfl) ?_)
        refine pt_d (pt_1 (fun n d => r_iloadn gx269_50 rfl) ?_)
        refine pt_d (pt_putI (B := 71) gx269_51 S21 z3 (fun h_26 S26 e26 => ?_))
        refine pt_d (pt_1 (fun n d => r_aloadn gx269_54 rfl) ?_)
        refine pt_d (pt_1 (fun n d => r_iloadn gx269_55 rfl) ?_)
        refine pt_d (pt_1 (fun n d => r_aloadn gx269_56 rfl) ?_)
        refine pt_d (pt_getR gx269_57 S26 tr_72_60 ?_)
        refine pt_d (pt_1 (fun n d => r_iload gx269_60 rfl) ?_)
        refine pt_d (pt_iald (N' := 1530) gx269_62 S26 tl_120 h9 (fun v28 p28 q28 h28 => ?_))
        have h28 : v28.toInt = vw h_21 120 (w32 ((w32 (90 * a1)) + a3)) := by rw [h28, e26, up_c (by decide)]
        refine pt_d (pt_1 (fun n d => r_aloadn gx269_63 rfl) ?_)
        refine pt_d (pt_getR gx269_64 S26 tr_72_61 ?_)
        refine pt_d (pt_1 (fun n d => r_iload gx269_67 rfl) ?_)
        refine pt_d (pt_iald (N' := 1530) gx269_69 S26 tl_121 h9 (fun v30 p30 q30 h30 => ?_))
        have h30 : v30.toInt = vw h_21 121 (w32 ((w32 (90 * a1)) + a3)) := by rw [h30, e26, up_c (by decide)]
        have H := H h_26 S26 (by rw [e26])
        obtain ⟨pr31, H⟩ := H
        refine pt_d (pt_virt (as := [.int x1, .int v28, .int v30]) (r := []) gx269_70 rfl (show zmt[268]? = some zM268 from rfl) rfl rfl rfl rfl (c_268 S26 z1 h28 h30 pr31) (kqI (fun v31 y31 h_31 h31 P31 => ?_)))
        have S31 := P31.1
        have H := H y31 h_31 P31
        show Pt _ _ _ 73 _ [.int v31] _ _
        exact pt_d (pt_iret gx269_73 ⟨_, rfl, by rw [h31]; exact H⟩)
-- a text's lines as they lie
def lAtR (V : vS) (t : Int) : Int → Int → cLs → Prop
  | _, i, [] => V 119 t = i
  | b, i, (M, L) :: ls => (V 120 (90 * t + i) = b + (M.length : Int) ∧ V 121 (90 * t + i) = b + (M.length : Int) + (L.length : Int) ∧ b + (M.length : Int) + (L.length : Int) ≤ 170 ∧ cAt V (170 * t + b) (M ++ L)) ∧ lAtR V t (b + (M.length : Int) + (L.length : Int)) (i + 1) ls
theorem lAtR_n {V : vS} {t : Int} : ∀ (ls : cLs) (b i : Int), lAtR V t b i ls → V 119 t = i + (ls.length : Int)
  | [], b, i, h => by
    have h : V 119 t = i := h
    show V 119 t = i + ((0 : Nat) : Int)
    omega
  | (M, L) :: ls, b, i, h => by
    have := lAtR_n ls _ _ h.2
    show V 119 t = i + ((ls.length + 1 : Nat) : Int)
    omega
theorem lAtR_k {V W : vS} {t : Int} : ∀ (ls : cLs) (b i : Int), W 119 t = V 119 t → (∀ j, i ≤ j → j < V 119 t → W 120 (90 * t + j) = V 120 (90 * t + j) ∧ W 121 (90 * t + j) = V 121 (90 * t + j)) → (∀ j, j < 170 * t + 170 → W 122 j = V 122 j ∧ W 123 j = V 123 j) → lAtR V t b i ls → lAtR W t b i ls
  | [], _, _, e, _, _, h => e.trans h
  | (M, L) :: ls, b, i, e, e1, e2, h => by
    have n := lAtR_n ls _ _ h.2
    obtain ⟨⟨h1, h2, h3, h4⟩, h5⟩ := h
    have k := e1 i (Int.le_refl _) (by omega)
    refine ⟨⟨k.1.trans h1, k.2.trans h2, h3, cAt_k _ _ (fun j u v => e2 j ?_) h4⟩, lAtR_k ls _ _ e (fun j u v => e1 j (by omega) v) e2 h5⟩
    rw [List.length_append] at v
    omega
def gdL (N : Int → Int) : cLs → Prop
  | [] => True
  | (M, L) :: ls => (M = [] ∨ oneC N M) ∧ oneC N L ∧ gdL N ls
theorem ln1_g {T N : Int → Int} {p q : Int} {M L : List (Int × Int)} (a : ln1 T p q (M, L)) : (M = [] ∨ oneC N M) ∧ oneC N L := by
  rcases a with ⟨a1, a2, -⟩ | ⟨x, a1, -, a3⟩
  · exact ⟨Or.inl a1, cd_r a2 N⟩
  · exact ⟨Or.inr (cd_r a1 N), cd_r a3 N⟩
theorem lnT_g {T N : Int → Int} : ∀ (ls : cLs) (p : Int), lnT T p ls → gdL N ls
  | [], _, _ => trivial
  | (M, L) :: ls, p, ⟨_, q, a, b⟩ => ⟨(ln1_g a).1, (ln1_g a).2, lnT_g ls q b⟩
theorem Lns_g {T N : Int → Int} {p : Int} : ∀ (ls : cLs), Lns T p ls → gdL N ls
  | [], h => h.elim
  | (M, L) :: ls, ⟨q, a, b⟩ => ⟨(ln1_g a).1, (ln1_g a).2, lnT_g ls q b⟩
theorem l_269 {X : aX} {x1 : Int32} {t : Int} (h1 : x1.toInt = t) (t0 : 0 ≤ t ∧ t ≤ 15) : ∀ (n : Nat) (h : aH) (x2 x3 : Int32) (u4 : Option Value) (b i : Int) (ls : cLs), wS h → x2.toInt = b → x3.toInt = i → 0 ≤ b → 0 ≤ i → vw h 119 t ≤ 90 → lAtR (vw h) t b i ls → gdL (fun j => vw h 124 j) ls → Pt n X zM269 4 [some (.ref 72), some (.int x1), some (.int x2), some (.int x3), u4] [] h (qI (fun y h' => wS h' ∧ y = (valL (fun j => vw h 124 j) i ls).1 ∧ vw h' 72 71 = (valL (fun j => vw h 124 j) i ls).2 ∧ ∀ c j, c ≠ 125 → (c = 72 → j ≠ 71) → vw h' c j = vw h c j)) := by
  intro n
  induction n with
  | zero => exact fun _ _ _ _ _ _ _ _ _ _ _ _ _ _ _ => pt_z
  | succ n ih =>
    intro h x2 x3 u4 b i ls S h2 h3 b0 i0 hn A G
    have len := lAtR_n ls b i A
    have up_fr7 : ∀ (V : vS) (v : Int) (c : Nat) (j : Int), (c = 72 → j ≠ 71) → up V 72 71 v c j = V c j := fun V v c j z => by
      by_cases w : c = 72
      · subst w
        exact up_j (z rfl)
      · exact up_c w
    refine d269_4 S h1 h2 h3 (fun _ _ => ⟨fun ge g S2 eg => ?_, fun lt j0 j1 => ?_⟩)
    · cases ls with
      | cons l ls =>
        have len : vw h 119 t = i + ((ls.length + 1 : Nat) : Int) := len
        omega
      | nil => exact ⟨S2, rfl, by rw [eg, up_s]; rfl, fun c j _ z => by rw [eg]; exact up_fr7 _ _ c j z⟩
    · cases ls with
      | nil =>
        have len : vw h 119 t = i + ((0 : Nat) : Int) := len
        omega
      | cons l ls =>
        obtain ⟨M, L⟩ := l
        obtain ⟨⟨a1, a2, a3, a4⟩, a5⟩ := A
        obtain ⟨g1, g2, g3⟩ := G
        have ej : w32 (w32 (90 * t) + i) = 90 * t + i := by rw [w32_id (z := 90 * t) (by omega) (by omega), w32_id (by omega) (by omega)]
        rw [ej, a1, a2]
        rw [cAt_a] at a4
        obtain ⟨cM, cL⟩ := a4
        have eL : 170 * t + b + (M.length : Int) = 170 * t + (b + (M.length : Int)) := by omega
        rw [eL] at cL
        obtain ⟨r, hr⟩ := g2 []
        -- the line's number
        have last : ∀ (g g' : aH) (y : Int), (∀ c j, c ≠ 125 → (c = 72 → j ≠ 71) → vw g c j = vw h c j) → vw g 72 71 = i → (wS g' ∧ R268 (vw g) t (b + (M.length : Int)) (b + (M.length : Int) + (L.length : Int)) y (vw g')) → wS g' ∧ y = evC (fun j => vw h 124 j) L ∧ vw g' 72 71 = i ∧ ∀ c j, c ≠ 125 → (c = 72 → j ≠ 71) → vw g' c j = vw h c j := by
          intro g g' y F e71 k
          have k1 := k.2.1 L rfl (cAt_k L _ (fun j _ _ => ⟨F 122 j (by decide) (fun z => absurd z (by decide)), F 123 j (by decide) (fun z => absurd z (by decide))⟩) cL)
          have eN : (fun j => vw g 124 j) = fun j => vw h 124 j := funext fun j => F 124 j (by decide) (fun z => absurd z (by decide))
          rw [eN] at k1
          exact ⟨k.1, k1, (k.2.2 72 71 (by decide)).trans e71, fun c j c1 c2 => (k.2.2 c j c1).trans (F c j c1 c2)⟩
        have preL : ∀ g : aH, (∀ c j, c ≠ 125 → (c = 72 → j ≠ 71) → vw g c j = vw h c j) → pre268 (vw g) t (b + (M.length : Int)) (b + (M.length : Int) + (L.length : Int)) := fun g F => by
          have eN : (fun j => vw g 124 j) = fun j => vw h 124 j := funext fun j => F 124 j (by decide) (fun z => absurd z (by decide))
          exact ⟨t0, ⟨by omega, a3⟩, L, rfl, cAt_k L _ (fun j _ _ => ⟨F 122 j (by decide) (fun z => absurd z (by decide)), F 123 j (by decide) (fun z => absurd z (by decide))⟩) cL, r, by rw [eN]; exact hr⟩
        refine ⟨fun e g S2 eg => ?_, fun ne => ?_⟩
        · have m0 : M = [] := by
            cases M with
            | nil => rfl
            | cons z M =>
              have e : b + ((M.length + 1 : Nat) : Int) = b := e
              omega
          have F : ∀ c j, c ≠ 125 → (c = 72 → j ≠ 71) → vw g c j = vw h c j := fun c j _ z => by rw [eg]; exact up_fr7 _ _ c j z
          refine ⟨preL g F, fun y18 h18 k18 => ?_⟩
          rw [valL_y (Or.inl m0)]
          exact last g h18 y18 F (by rw [eg, up_s]) k18
        · have m0 : M ≠ [] := fun e => ne (by rw [e]; show b + ((0 : Nat) : Int) = b; omega)
          have gM : oneC (fun j => vw h 124 j) M := g1.elim (fun e => absurd e m0) id
          obtain ⟨rM, hM⟩ := gM []
          refine ⟨⟨t0, ⟨b0, by omega⟩, M, rfl, cM, rM, hM⟩, fun y21 h21 k21 => ?_⟩
          have ev := k21.2.1 M rfl cM
          have F21 : ∀ c j, c ≠ 125 → (c = 72 → j ≠ 71) → vw h21 c j = vw h c j := fun c j c1 _ => k21.2.2 c j c1
          have e121 : vw h21 121 (90 * t + i) = b + (M.length : Int) + (L.length : Int) := (k21.2.2 121 _ (by decide)).trans a2
          have e120 : vw h21 120 (90 * t + i) = b + (M.length : Int) := (k21.2.2 120 _ (by decide)).trans a1
          have eN : (fun j => vw h21 124 j) = fun j => vw h 124 j := funext fun j => k21.2.2 124 j (by decide)
          rw [e121, e120]
          refine ⟨fun y0 w2 w3 u4' g2' g3' => ?_, fun y0 g S2 eg => ?_⟩
          · replace g3' := w_1 g3' (by omega) (by omega)
            refine pt_q (ih h21 w2 w3 u4' _ (i + 1) ls k21.1 g2' g3' (by omega) (by omega) (by rw [k21.2.2 119 t (by decide)]; exact hn) (lAtR_k ls _ _ (k21.2.2 119 t (by decide)) (fun j _ _ => ⟨k21.2.2 120 _ (by decide), k21.2.2 121 _ (by decide)⟩) (fun j _ => ⟨k21.2.2 122 j (by decide), k21.2.2 123 j (by decide)⟩) a5) (by rw [eN]; exact g3)) ?_
            rintro v h' ⟨x, ex, p1, p2, p3, p4⟩
            rw [eN] at p2 p3
            rw [valL_n (fun w => w.elim m0 (fun w => w (by rw [← ev]; exact y0)))]
            exact ⟨x, ex, p1, p2, p3, fun c j c1 c2 => (p4 c j c1 c2).trans (F21 c j c1 c2)⟩
          · have F : ∀ c j, c ≠ 125 → (c = 72 → j ≠ 71) → vw g c j = vw h c j := fun c j c1 z => by rw [eg, up_fr7 _ _ c j z]; exact F21 c j c1 z
            refine ⟨preL g F, fun y31 h31 k31 => ?_⟩
            rw [valL_y (Or.inr (by rw [← ev]; exact y0))]
            exact last g h31 y31 F (by rw [eg, up_s]) k31
def pre269 (V : vS) (t : Int) : Prop := (0 ≤ t ∧ t ≤ 15) ∧ V 119 t ≤ 90 ∧ ∃ ls, Lns (oT V t) 0 ls ∧ lAtR V t 0 0 ls
def R269 (V : vS) (t y : Int) (V' : vS) : Prop := y = (tSay (oT V t) (fun j => V 124 j)).1 ∧ V' 72 71 = (tSay (oT V t) (fun j => V 124 j)).2 ∧ ∀ c j, c ≠ 125 → (c = 72 → j ≠ 71) → V' c j = V c j
theorem c_269 {n : Nat} {X : aX} {h : aH} {x1 : Int32} {a1 : Int} (S : wS h) (z1 : x1.toInt = a1) (hp : pre269 (vw h) a1) : Pt n X zM269 0 [some (.ref 72), some (.int x1), none, none, none] [] h (qI (fun y h' => wS h' ∧ R269 (vw h) a1 y (vw h'))) := by
  obtain ⟨t0, hn, ls, D, A⟩ := hp
  refine pt_d (d269_0 S z1 (fun w2 w3 u4 g2 g3 => ?_))
  refine pt_q (l_269 z1 t0 n h w2 w3 u4 0 0 ls S g2 g3 (Int.le_refl _) (Int.le_refl _) hn A (Lns_g ls D)) ?_
  rintro v h' ⟨x, ex, p1, p2, p3, p4⟩
  refine ⟨x, ex, p1, ?_, ?_, p4⟩
  · rw [tSay_e D]
    exact p2
  · rw [tSay_e D]
    exact p3
end
section
-- ===== the reference keeps the texts laid out =====
theorem y262_0 {n : Nat} {X : aX} {h : aH} {P : aH → Prop} (S : wS h) (H : (0 ≤ vw h 72 67 → vw h 72 67 < 17 → ((mpre (vw h) ∧ kpre (vw h)) ∧ ∀ (h_9 : aH), (wS h_9 ∧ mRes 8 (vw h) (vw h_9) ∧ kRes 8 (vw h) (vw h_9)) → (0 ≤ w32 ((w32 (90 * (vw h 72 67))) + (vw h 119 (vw h 72 67))) → w32 ((w32 (90 * (vw h 72 67))) + (vw h 119 (vw h 72 67))) < 1530 → ((0 ≤ vw h_9 72 65 → (0 ≤ vw h_9 72 67 → vw h_9 72 67 < 17 → ∀ h_22 : aH, wS h_22 → vw h_22 = up (up (up (vw h_9) 120 (w32 ((w32 (90 * (vw h 72 67))) + (vw h 119 (vw h 72 67)))) (vw h 72 68)) 121 (w32 ((w32 (90 * (vw h 72 67))) + (vw h 119 (vw h 72 67)))) (vw h_9 72 68)) 119 (vw h_9 72 67) (w32 ((vw h_9 119 (vw h_9 72 67)) + 1)) → P h_22)) ∧ (vw h_9 72 65 < 0 → ∀ h_11 : aH, wS h_11 → vw h_11 = up (vw h_9) 120 (w32 ((w32 (90 * (vw h 72 67))) + (vw h 119 (vw h 72 67)))) (vw h 72 68) → ((mL (vw h_11) ≠ 63 → (0 ≤ vw h_11 72 67 → vw h_11 72 67 < 17 → ∀ h_34 : aH, wS h_34 → vw h_34 = up (up (vw h_11) 121 (w32 ((w32 (90 * (vw h 72 67))) + (vw h 119 (vw h 72 67)))) (vw h_11 72 68)) 119 (vw h_11 72 67) (w32 ((vw h_11 119 (vw h_11 72 67)) + 1)) → P h_34)) ∧ (mL (vw h_11) = 63 → ∀ h_41 : aH, wS h_41 → vw h_41 = up (up (vw h_11) 72 64 (w32 ((vw h_11 72 64) + 1))) 120 (w32 ((w32 (90 * (vw h 72 67))) + (vw h 119 (vw h 72 67)))) (vw h_11 72 68) → ((mpre (vw h_41) ∧ kpre (vw h_41)) ∧ ∀ (h_42 : aH), (wS h_42 ∧ mRes 8 (vw h_41) (vw h_42) ∧ kRes 8 (vw h_41) (vw h_42)) → (0 ≤ vw h_42 72 67 → vw h_42 72 67 < 17 → ∀ h_51 : aH, wS h_51 → vw h_51 = up (up (vw h_42) 121 (w32 ((w32 (90 * (vw h 72 67))) + (vw h 119 (vw h 72 67)))) (vw h_42 72 68)) 119 (vw h_42 72 67) (w32 ((vw h_42 119 (vw h_42 72 67)) + 1)) → P h_51)))))))))) : Pt (n + 1) X zM262 0 [some (.ref 72), none, none] [] h (qN P) := by
  refine pt_bipush gx262_0 (fun v1 h1 => ?_)
  refine pt_d (pt_1 (fun n d => r_aloadn gx262_2 rfl) ?_)
  refine pt_d (pt_getI (B := 67) gx262_3 S (fun v2 h2 => ?_))
  refine pt_d (pt_imul gx262_6 h1 h2 (fun v3 h3 => ?_))
  refine pt_d (pt_1 (fun n d => r_aloadn gx262_7 rfl) ?_)
  refine pt_d (pt_getR gx262_8 S tr_72_59 ?_)
  refine pt_d (pt_1 (fun n d => r_aloadn gx262_11 rfl) ?_)
  refine pt_d (pt_getI (B := 67) gx262_12 S (fun v5 h5 => ?_))
  refine pt_d (pt_iald (N' := 17) gx262_15 S tl_119 h5 (fun v6 p6 q6 h6 => ?_))
  have H := H p6 q6
  refine pt_d (pt_iadd gx262_16 h3 h6 (fun v7 h7 => ?_))
  refine pt_d (pt_1 (fun n d => r_istoren (L' := [some (.ref 72), some (.int v7), none]) gx262_17 rfl rfl) ?_)
  refine pt_d (pt_1 (fun n d => r_aloadn gx262_18 rfl) ?_)
  refine pt_d (pt_getI (B := 68) gx262_19 S (fun v8 h8 => ?_))
  refine pt_d (pt_1 (fun n d => r_istoren (L' := [some (.ref 72), some (.int v7), some (.int v8)]) gx262_22 rfl rfl) ?_)
  refine pt_d (pt_1 (fun n d => r_aloadn gx262_23 rfl) ?_)
  obtain ⟨pr9, H⟩ := H
  refine pt_d (pt_virt (as := []) (r := []) gx262_24 rfl (show zmt[261]? = some zM261 from rfl) rfl rfl rfl rfl ((mk_gram X _).2.2.2.2.2.1 S pr9) (kqN (fun h_9 P9 => ?_)))
  have S9 := P9.1
  have H := H h_9 P9
  show Pt _ _ _ 27 _ [] _ _
  refine pt_d (pt_1 (fun n d => r_aloadn gx262_27 rfl) ?_)
  refine pt_d (pt_getR gx262_28 S9 tr_72_60 ?_)
  refine pt_d (pt_1 (fun n d => r_iloadn gx262_31 rfl) ?_)
  refine pt_d (pt_1 (fun n d => r_iloadn gx262_32 rfl) ?_)
  refine pt_d (pt_iast (N' := 1530) gx262_33 S9 tl_120 h7 h8 (fun h_11 S11 p11 q11 e11 => ?_))
  have H := H p11 q11
  refine pt_d (pt_1 (fun n d => r_aloadn gx262_34 rfl) ?_)
  refine pt_d (pt_getI (B := 65) gx262_35 S11 (fun v12 h12 => ?_))
  have h12 : v12.toInt = vw h_9 72 65 := by rw [h12, e11, up_c (by decide)]
  refine pt_d (pt_if_ge gx262_38 h12 (fun e13 => ?_) (fun e13 => ?_))
  · have H := H.1 e13
    refine pt_d (pt_1 (fun n d => r_aloadn gx262_74 rfl) ?_)
    refine pt_d (pt_getR gx262_75 S11 tr_72_61 ?_)
    refine pt_d (pt_1 (fun n d => r_iloadn gx262_78 rfl) ?_)
    refine pt_d (pt_1 (fun n d => r_aloadn gx262_79 rfl) ?_)
    refine pt_d (pt_getI (B := 68) gx262_80 S11 (fun v15 h15 => ?_))
    have h15 : v15.toInt = vw h_9 72 68 := by rw [h15, e11, up_c (by decide)]
    refine pt_d (pt_iast (N' := 1530) gx262_83 S11 tl_121 h7 h15 (fun h_16 S16 p16 q16 e16 => ?_))
    refine pt_d (pt_1 (fun n d => r_aloadn gx262_84 rfl) ?_)
    refine pt_d (pt_getR gx262_85 S16 tr_72_59 ?_)
    refine pt_d (pt_1 (fun n d => r_aloadn gx262_88 rfl) ?_)
    refine pt_d (pt_getI (B := 67) gx262_89 S16 (fun v18 h18 => ?_))
    have h18 : v18.toInt = vw h_9 72 67 := by rw [h18, e16, up_c (by decide), e11, up_c (by decide)]
    refine pt_d (pt_1 (fun n d => r_dup2 gx262_92 rfl) ?_)
    refine pt_d (pt_iald (N' := 17) gx262_93 S16 tl_119 h18 (fun v19 p19 q19 h19 => ?_))
    have H := H p19 q19
    have h19 : v19.toInt = vw h_9 119 (vw h_9 72 67) := by rw [h19, e16, up_c (by decide), e11, up_c (by decide)]
    refine pt_d (pt_iconst gx262_94 (fun v20 h20 => ?_))
    refine pt_d (pt_iadd gx262_95 h19 h20 (fun v21 h21 => ?_))
    refine pt_d (pt_iast (N' := 17) gx262_96 S16 tl_119 h18 h21 (fun h_22 S22 p22 q22 e22 => ?_))
    have H := H h_22 S22 (by rw [e22, e16, e11])
    exact pt_d (pt_vret gx262_97 ⟨rfl, H⟩)
  · have H := H.2 e13
    refine pt_d (pt_1 (fun n d => r_aloadn gx262_41 rfl) ?_)
    have H := H h_11 S11 (by rw [e11])
    refine pt_d (pt_virt (as := []) (r := []) gx262_42 rfl (show zmt[251]? = some zM251 from rfl) rfl rfl rfl rfl (c_251 S11) (kqP (fun v23 h23 => ?_)))
    show Pt _ _ _ 45 _ [.int v23] _ _
    refine pt_d (pt_bipush gx262_45 (fun v24 h24 => ?_))
    refine pt_d (pt_icmp_ne gx262_47 h23 h24 (fun e25 => ?_) (fun e25 => ?_))
    · have H := H.1 e25
      refine pt_d (pt_1 (fun n d => r_aloadn gx262_74 rfl) ?_)
      refine pt_d (pt_getR gx262_75 S11 tr_72_61 ?_)
      refine pt_d (pt_1 (fun n d => r_iloadn gx262_78 rfl) ?_)
      refine pt_d (pt_1 (fun n d => r_aloadn gx262_79 rfl) ?_)
      refine pt_d (pt_getI (B := 68) gx262_80 S11 (fun v27 h27 => ?_))
      refine pt_d (pt_iast (N' := 1530) gx262_83 S11 tl_121 h7 h27 (fun h_28 S28 p28 q28 e28 => ?_))
      refine pt_d (pt_1 (fun n d => r_aloadn gx262_84 rfl) ?_)
      refine pt_d (pt_getR gx262_85 S28 tr_72_59 ?_)
      refine pt_d (pt_1 (fun n d => r_aloadn gx262_88 rfl) ?_)
      refine pt_d (pt_getI (B := 67) gx262_89 S28 (fun v30 h30 => ?_))
      have h30 : v30.toInt = vw h_11 72 67 := by rw [h30, e28, up_c (by decide)]
      refine pt_d (pt_1 (fun n d => r_dup2 gx262_92 rfl) ?_)
      refine pt_d (pt_iald (N' := 17) gx262_93 S28 tl_119 h30 (fun v31 p31 q31 h31 => ?_))
      have H := H p31 q31
      have h31 : v31.toInt = vw h_11 119 (vw h_11 72 67) := by rw [h31, e28, up_c (by decide)]
      refine pt_d (pt_iconst gx262_94 (fun v32 h32 => ?_))
      refine pt_d (pt_iadd gx262_95 h31 h32 (fun v33 h33 => ?_))
      refine pt_d (pt_iast (N' := 17) gx262_96 S28 tl_119 h30 h33 (fun h_34 S34 p34 q34 e34 => ?_))
      have H := H h_34 S34 (by rw [e34, e28])
      exact pt_d (pt_vret gx262_97 ⟨rfl, H⟩)
    · have H := H.2 e25
      refine pt_d (pt_1 (fun n d => r_aloadn gx262_50 rfl) ?_)
      refine pt_d (pt_1 (fun n d => r_dup gx262_51 rfl) ?_)
      refine pt_d (pt_getI (B := 64) gx262_52 S11 (fun v35 h35 => ?_))
      refine pt_d (pt_iconst gx262_55 (fun v36 h36 => ?_))
      refine pt_d (pt_iadd gx262_56 h35 h36 (fun v37 h37 => ?_))
      refine pt_d (pt_putI (B := 64) gx262_57 S11 h37 (fun h_38 S38 e38 => ?_))
      refine pt_d (pt_1 (fun n d => r_aloadn gx262_60 rfl) ?_)
      refine pt_d (pt_getR gx262_61 S38 tr_72_60 ?_)
      refine pt_d (pt_1 (fun n d => r_iloadn gx262_64 rfl) ?_)
      refine pt_d (pt_1 (fun n d => r_aloadn gx262_65 rfl) ?_)
      refine pt_d (pt_getI (B := 68) gx262_66 S38 (fun v40 h40 => ?_))
      have h40 : v40.toInt = vw h_11 72 68 := by rw [h40, e38, up_j (by decide)]
      refine pt_d (pt_iast (N' := 1530) gx262_69 S38 tl_120 h7 h40 (fun h_41 S41 p41 q41 e41 => ?_))
      refine pt_d (pt_1 (fun n d => r_aloadn gx262_70 rfl) ?_)
      have H := H h_41 S41 (by rw [e41, e38])
      obtain ⟨pr42, H⟩ := H
      refine pt_d (pt_virt (as := []) (r := []) gx262_71 rfl (show zmt[261]? = some zM261 from rfl) rfl rfl rfl rfl ((mk_gram X _).2.2.2.2.2.1 S41 pr42) (kqN (fun h_42 P42 => ?_)))
      have S42 := P42.1
      have H := H h_42 P42
      show Pt _ _ _ 74 _ [] _ _
      refine pt_d (pt_1 (fun n d => r_aloadn gx262_74 rfl) ?_)
      refine pt_d (pt_getR gx262_75 S42 tr_72_61 ?_)
      refine pt_d (pt_1 (fun n d => r_iloadn gx262_78 rfl) ?_)
      refine pt_d (pt_1 (fun n d => r_aloadn gx262_79 rfl) ?_)
      refine pt_d (pt_getI (B := 68) gx262_80 S42 (fun v44 h44 => ?_))
      refine pt_d (pt_iast (N' := 1530) gx262_83 S42 tl_121 h7 h44 (fun h_45 S45 p45 q45 e45 => ?_))
      refine pt_d (pt_1 (fun n d => r_aloadn gx262_84 rfl) ?_)
      refine pt_d (pt_getR gx262_85 S45 tr_72_59 ?_)
      refine pt_d (pt_1 (fun n d => r_aloadn gx262_88 rfl) ?_)
      refine pt_d (pt_getI (B := 67) gx262_89 S45 (fun v47 h47 => ?_))
      have h47 : v47.toInt = vw h_42 72 67 := by rw [h47, e45, up_c (by decide)]
      refine pt_d (pt_1 (fun n d => r_dup2 gx262_92 rfl) ?_)
      refine pt_d (pt_iald (N' := 17) gx262_93 S45 tl_119 h47 (fun v48 p48 q48 h48 => ?_))
      have H := H p48 q48
      have h48 : v48.toInt = vw h_42 119 (vw h_42 72 67) := by rw [h48, e45, up_c (by decide)]
      refine pt_d (pt_iconst gx262_94 (fun v49 h49 => ?_))
      refine pt_d (pt_iadd gx262_95 h48 h49 (fun v50 h50 => ?_))
      refine pt_d (pt_iast (N' := 17) gx262_96 S45 tl_119 h47 h50 (fun h_51 S51 p51 q51 e51 => ?_))
      have H := H h_51 S51 (by rw [e51, e45])
      exact pt_d (pt_vret gx262_97 ⟨rfl, H⟩)
def kLine (V V' : vS) : Prop := kpre V' ∧ V' 72 67 = V 72 67 ∧ V 72 68 ≤ V' 72 68 ∧ (∀ j, V' 119 j = if j = V 72 67 then V 119 (V 72 67) + 1 else V 119 j) ∧ (∀ j, j < 90 * V 72 67 + V 119 (V 72 67) → V' 120 j = V 120 j ∧ V' 121 j = V 121 j) ∧ (∀ j, j < 170 * V 72 67 + V 72 68 → V' 122 j = V 122 j ∧ V' 123 j = V 123 j) ∧ (V' 72 65 < 0 → ∃ q, ∃ M L : List (Int × Int), ln1 (mT V) (V 72 64) q (M, L) ∧ V' 72 64 = q ∧ V' 120 (90 * V 72 67 + V 119 (V 72 67)) = V 72 68 + (M.length : Int) ∧ V' 121 (90 * V 72 67 + V 119 (V 72 67)) = V 72 68 + (M.length : Int) + (L.length : Int) ∧ V' 72 68 = V 72 68 + (M.length : Int) + (L.length : Int) ∧ cAt V' (170 * V 72 67 + V 72 68) (M ++ L))
theorem rl_e {V W V' : vS} (K : kpre V) (hA : ∀ c j, (c = 119 ∨ c = 121 ∨ (c = 72 ∧ j = 67)) → W c j = V c j) (hB : ∀ j, j < 90 * V 72 67 + V 119 (V 72 67) → W 120 j = V 120 j) (hC : ∀ j, j < 170 * V 72 67 + V 72 68 → W 122 j = V 122 j ∧ W 123 j = V 123 j) (hD : V 72 68 ≤ W 72 68 ∧ W 72 68 ≤ W 72 64) (hE : V' = up (up W 121 (90 * V 72 67 + V 119 (V 72 67)) (W 72 68)) 119 (V 72 67) (V 119 (V 72 67) + 1)) (hS : W 72 65 < 0 → ∃ q, ∃ M L : List (Int × Int), ln1 (mT V) (V 72 64) q (M, L) ∧ W 72 64 = q ∧ W 120 (90 * V 72 67 + V 119 (V 72 67)) = V 72 68 + (M.length : Int) ∧ W 72 68 = V 72 68 + (M.length : Int) + (L.length : Int) ∧ cAt W (170 * V 72 67 + V 72 68) (M ++ L)) : kLine V V' := by
  have e72 : ∀ j, V' 72 j = W 72 j := fun j => by rw [hE, up_c (by decide), up_c (by decide)]
  have e120 : ∀ j, V' 120 j = W 120 j := fun j => by rw [hE, up_c (by decide), up_c (by decide)]
  have e12 : ∀ c j, (c = 122 ∨ c = 123) → V' c j = W c j := fun c j z => by rw [hE, up_c (by omega), up_c (by omega)]
  have e121 : ∀ j, V' 121 j = if j = 90 * V 72 67 + V 119 (V 72 67) then W 72 68 else W 121 j := fun j => by rw [hE, up_c (by decide), up_p]
  have e119 : ∀ j, V' 119 j = if j = V 72 67 then V 119 (V 72 67) + 1 else W 119 j := fun j => by rw [hE, up_p, up_c (by decide)]
  have e67 : W 72 67 = V 72 67 := hA 72 67 (by omega)
  have k := K.2
  refine ⟨⟨by rw [e72, e67]; exact K.1, by rw [e72]; omega, by rw [e72, e72]; exact hD.2⟩, by rw [e72]; exact e67, by rw [e72]; exact hD.1, fun j => ?_, fun j u => ⟨by rw [e120]; exact hB j u, ?_⟩, fun j u => ?_, fun n => ?_⟩
  · rw [e119, hA 119 j (Or.inl rfl)]
  · rw [e121, if_neg (by omega)]
    exact hA 121 j (by omega)
  · rw [e12 122 j (by omega), e12 123 j (by omega)]
    exact hC j u
  · rw [e72] at n
    obtain ⟨q, M, L, a1, a2, a3, a4, a5⟩ := hS n
    exact ⟨q, M, L, a1, by rw [e72]; exact a2, by rw [e120]; exact a3, by rw [e121, if_pos rfl]; exact a4, by rw [e72]; exact a4, cAt_k _ _ (fun j _ _ => ⟨e12 122 j (by omega), e12 123 j (by omega)⟩) a5⟩
def lpre (V : vS) : Prop := (mpre V ∧ kpre V) ∧ V 72 66 = 0 ∧ 0 ≤ V 119 (V 72 67) ∧ 2 * V 119 (V 72 67) ≤ V 72 64
theorem c_262v {n : Nat} {X : aX} {h : aH} (S : wS h) (hp : lpre (vw h)) : Pt n X zM262 0 [some (.ref 72), none, none] [] h (qN (fun h' => wS h' ∧ mRes 10 (vw h) (vw h') ∧ kLine (vw h) (vw h'))) := by
  obtain ⟨⟨hm, K⟩, o0, m0, m2⟩ := hp
  refine pt_q (pt_and (c_262 S hm) (show Pt n X zM262 0 [some (.ref 72), none, none] [] h (qN (fun h' => kLine (vw h) (vw h'))) from ?_)) ?_
  · have h64 := hm.2.2.1
    have h160 := hm.2.2.2
    have kr := K.1
    have kl := K.2
    have ei : w32 (w32 (90 * vw h 72 67) + vw h 119 (vw h 72 67)) = 90 * vw h 72 67 + vw h 119 (vw h 72 67) := by rw [w32_id (z := 90 * vw h 72 67) (by omega) (by omega), w32_id (by omega) (by omega)]
    have wm : w32 (vw h 119 (vw h 72 67) + 1) = vw h 119 (vw h 72 67) + 1 := w32_id (by omega) (by omega)
    have H0 := y262_0 (n := n) (X := X) (h := h) S (P := fun h' => kLine (vw h) (vw h'))
    rw [ei] at H0
    refine pt_d (H0 (fun _ _ => ⟨⟨hm, K⟩, fun h9 k9 _ _ => ?_⟩))
    obtain ⟨S9, c9, r9⟩ := k9
    have H := mRes_p hm c9
    have F1 : mfr (vw h) (vw h9) := c9.1
    have e67 := kFs_67 r9.1
    have f3 := r9.1.2.2.1
    have f4 := r9.1.2.2.2
    have e119 : vw h9 119 (vw h 72 67) = vw h 119 (vw h 72 67) := r9.1.1 119 _ (Or.inl rfl)
    refine ⟨fun ge _ _ g S2 eg => ?_, fun lt h11 S11 e11 => ?_⟩
    · rw [e67, e119, wm] at eg
      have u : ∀ c j, c ≠ 120 → up (vw h9) 120 (90 * vw h 72 67 + vw h 119 (vw h 72 67)) (vw h 72 68) c j = vw h9 c j := fun c j z => up_c z
      refine rl_e (W := up (vw h9) 120 (90 * vw h 72 67 + vw h 119 (vw h 72 67)) (vw h 72 68)) K (fun c j z => by rw [u c j (by omega)]; exact r9.1.1 c j (by omega)) (fun j z => by rw [up_j (by omega)]; exact r9.1.1 120 j (by omega)) (fun j z => by rw [u 122 j (by decide), u 123 j (by decide)]; exact r9.1.2.1 j z) (by rw [u 72 68 (by decide), u 72 64 (by decide)]; omega) (by rw [u 72 68 (by decide)]; exact eg) (fun z => by rw [u 72 65 (by decide)] at z; omega)
    · have x11 : ∀ c j, c ≠ 120 → vw h11 c j = vw h9 c j := fun c j z => by rw [e11]; exact up_c z
      have s11 : vw h11 120 (90 * vw h 72 67 + vw h 119 (vw h 72 67)) = vw h 72 68 := by rw [e11, up_s]
      have F11 : mfr (vw h9) (vw h11) := by rw [e11]; exact mfr_a (mfr_r _) (Or.inr (Or.inl rfl))
      have m11 := mL_b F11 (x11 72 64 (by decide))
      obtain ⟨q1, L1, d1, a1, a2, a3⟩ := r9.2 lt
      rw [o0] at d1
      have mq : mL (vw h9) = mT (vw h) q1 := by rw [mL_T H.2.2.1.1, mfr_T F1, a1]
      rw [m11]
      refine ⟨fun n63 _ _ g S2 eg => ?_, fun e63 h41 S41 e41 => ?_⟩
      · rw [x11 72 67 (by decide), x11 119 _ (by decide), e67, e119, wm] at eg
        refine rl_e (W := vw h11) K (fun c j z => by rw [x11 c j (by omega)]; exact r9.1.1 c j (by omega)) (fun j z => by rw [e11, up_j (by omega)]; exact r9.1.1 120 j (by omega)) (fun j z => by rw [x11 122 j (by decide), x11 123 j (by decide)]; exact r9.1.2.1 j z) (by rw [x11 72 68 (by decide), x11 72 64 (by decide)]; omega) eg (fun _ => ⟨q1, [], L1, Or.inl ⟨rfl, d1, fun z => n63 (mq.trans z)⟩, (x11 72 64 (by decide)).trans a1, ?_, ?_, ?_⟩)
        · rw [s11]
          show _ = vw h 72 68 + ((0 : Nat) : Int)
          omega
        · rw [x11 72 68 (by decide), a2]
          show _ = vw h 72 68 + ((0 : Nat) : Int) + _
          omega
        · exact cAt_k _ _ (fun j _ _ => ⟨x11 122 j (by decide), x11 123 j (by decide)⟩) a3
      · obtain ⟨k1, k2, k3, k4, k5, k6, k7, k8⟩ := m_here H lt (by decide) e63 (V4 := up (vw h9) 72 64 (w32 (vw h9 72 64 + 1))) rfl
        rw [x11 72 64 (by decide), x11 72 68 (by decide)] at e41
        have w9 : w32 (vw h9 72 64 + 1) = vw h9 72 64 + 1 := by
          have b := k2.2.2.1
          have b2 := k2.2.2.2
          rw [k4] at b
          have b3 := H.2.2
          rw [w32_id (by omega) (by omega)]
        rw [w9] at e41
        have x41 : ∀ c j, c ≠ 120 → (c = 72 → j ≠ 64) → vw h41 c j = vw h9 c j := fun c j z1 z2 => by
          rw [e41, up_c z1]
          by_cases w : c = 72
          · subst w
            rw [up_j (z2 rfl)]
            exact x11 72 j z1
          · rw [up_c w]
            exact x11 c j z1
        have s41 : vw h41 120 (90 * vw h 72 67 + vw h 119 (vw h 72 67)) = vw h9 72 68 := by rw [e41, up_s]
        have t41 : vw h41 72 64 = vw h9 72 64 + 1 := by rw [e41, up_c (by decide), up_s]
        have b41 : ∀ j, j < 90 * vw h 72 67 + vw h 119 (vw h 72 67) → vw h41 120 j = vw h 120 j := fun j z => by
          rw [e41, up_j (by omega), up_c (by decide), e11, up_j (by omega)]
          exact r9.1.1 120 j (by omega)
        have y41 : ∀ j, j ≠ 64 → vw h41 72 j = vw h9 72 j := fun j z => x41 72 j (by decide) (fun _ => z)
        have T41 : mT (vw h41) = mT (vw h) := by
          rw [← mfr_T F1]
          funext p
          unfold mT
          rw [y41 54 (by decide), x41 115 p (by decide) (fun e => absurd e (by decide))]
        have hm41 : mpre (vw h41) := by
          have b2 := k2.2.2
          rw [k4, k7] at b2
          refine ⟨by rw [y41 65 (by decide)]; have := H.1; omega, by rw [y41 66 (by decide)]; exact H.2.1 lt, by rw [t41, y41 54 (by decide)]; exact b2.1, by rw [y41 54 (by decide)]; exact H.2.2.2⟩
        have K41 : kpre (vw h41) := ⟨by rw [y41 67 (by decide), e67]; exact kr, by rw [y41 68 (by decide)]; omega, by rw [y41 68 (by decide), t41]; omega⟩
        refine ⟨⟨hm41, K41⟩, fun h42 k42 _ _ g S2 eg => ?_⟩
        obtain ⟨S42, c42, r42⟩ := k42
        have g67 := kFs_67 r42.1
        have g3 := r42.1.2.2.1
        have g4 := r42.1.2.2.2
        rw [y41 68 (by decide)] at g3 g4
        rw [t41] at g4
        have g119 : ∀ j, vw h42 119 j = vw h 119 j := fun j => (r42.1.1 119 j (Or.inl rfl)).trans ((x41 119 j (by decide) (fun e => absurd e (by decide))).trans (r9.1.1 119 j (Or.inl rfl)))
        rw [g67, y41 67 (by decide), e67, g119, wm] at eg
        have bl : ∀ j, j < 170 * vw h 72 67 + vw h9 72 68 → vw h42 122 j = vw h9 122 j ∧ vw h42 123 j = vw h9 123 j := fun j z => by
          have y := r42.1.2.1 j (by rw [y41 67 (by decide), y41 68 (by decide), e67]; exact z)
          rw [x41 122 j (by decide) (fun e => absurd e (by decide)), x41 123 j (by decide) (fun e => absurd e (by decide))] at y
          exact y
        refine rl_e (W := vw h42) K (fun c j z => ?_) (fun j z => (r42.1.1 120 j (by omega)).trans (b41 j z)) (fun j z => ?_) (by omega) eg (fun n => ?_)
        · rcases z with rfl | rfl | ⟨rfl, rfl⟩
          · exact g119 j
          · exact (r42.1.1 121 j (by omega)).trans ((x41 121 j (by decide) (fun e => absurd e (by decide))).trans (r9.1.1 121 j (by omega)))
          · rw [g67, y41 67 (by decide), e67]
        · have y := bl j (by omega)
          have x := r9.1.2.1 j z
          exact ⟨y.1.trans x.1, y.2.trans x.2⟩
        · obtain ⟨q2, L2, d2, b1, b2, b3⟩ := r42.2 n
          have o41 : vw h41 72 66 = 0 := by
            rw [y41 66 (by decide)]
            obtain ⟨q, f, p1, e1, e2, e3, b⟩ := c9.2
            rw [e3 (by omega)]
            exact o0
          rw [T41, o41, t41, a1] at d2
          rw [y41 68 (by decide), a2] at b2
          rw [y41 67 (by decide), y41 68 (by decide), e67, a2] at b3
          refine ⟨q2, L1, L2, Or.inr ⟨q1, d1, by rw [← mq]; exact e63, d2⟩, b1, ?_, b2, ?_⟩
          · rw [r42.1.1 120 _ (by omega), s41, a2]
          · rw [cAt_a]
            refine ⟨cAt_k _ _ (fun j u v => bl j (by omega)) a3, ?_⟩
            rw [show 170 * vw h 72 67 + vw h 72 68 + (L1.length : Int) = 170 * vw h 72 67 + (vw h 72 68 + (L1.length : Int)) by omega]
            exact b3
  · rintro v h' ⟨⟨ev, p1, p2⟩, ⟨_, p3⟩⟩
    exact ⟨ev, p1, p2, p3⟩
end
section
-- ===== the reference keeps the texts laid out =====
theorem y264_0 {n : Nat} {X : aX} {h : aH} {P : Int → aH → Prop} {x1 x2 : Int32} {a1 a2 : Int} (S : wS h) (z1 : x1.toInt = a1) (z2 : x2.toInt = a2) (H : ((¬ (isU a1) → P (-1) h) ∧ ((isU a1) → (((0 ≤ a2 ∧ a2 ≤ 9) → ((vw h 72 55 ≠ 16 → (0 ≤ vw h 72 55 → vw h 72 55 < 17 → ∀ h_22 : aH, wS h_22 → vw h_22 = up (up (up (up (up (up (vw h) 72 67 (vw h 72 55)) 119 (vw h 72 55) 0) 72 68 0) 72 64 0) 72 65 (-1)) 72 66 0 → ((lpre (vw h_22)) ∧ ∀ (h_23 : aH), (wS h_23 ∧ mRes 10 (vw h_22) (vw h_23) ∧ kLine (vw h_22) (vw h_23)) → Pt n X zM264 70 [some (.ref 72), some (.int x1), some (.int x2)] [] h_23 (qI P)))) ∧ (vw h 72 55 = 16 → P (-3) h))) ∧ (¬ (0 ≤ a2 ∧ a2 ≤ 9) → P (-1) h))))) : Pt (n + 1) X zM264 0 [some (.ref 72), some (.int x1), some (.int x2)] [] h (qI P) := by
  refine pt_1 (fun n d => r_iloadn gx264_0 rfl) ?_
  refine pt_d (pt_stat (as := [.int x1]) (r := []) gx264_1 rfl (show zmt[263]? = some zM263 from rfl) rfl rfl rfl rfl (c_263 S z1) (kqP (fun v1 h1 => ?_)))
  show Pt _ _ _ 4 _ [.int v1] _ _
  refine pt_d (pt_ifB_eq gx264_4 h1 (fun e2 => ?_) (fun e2 => ?_))
  · have H := H.1 e2
    refine pt_d (pt_iconst gx264_14 (fun v3 h3 => ?_))
    exact pt_d (pt_iret gx264_15 ⟨_, rfl, by rw [h3]; exact H⟩)
  · have H := H.2 e2
    refine pt_d (pt_1 (fun n d => r_iloadn gx264_7 rfl) ?_)
    refine pt_d (pt_stat (as := [.int x2]) (r := []) gx264_8 rfl (show zmt[198]? = some zM198 from rfl) rfl rfl rfl rfl (c_198 S z2) (kqP (fun v4 h4 => ?_)))
    show Pt _ _ _ 11 _ [.int v4] _ _
    refine pt_d (pt_ifB_ne gx264_11 h4 (fun e5 => ?_) (fun e5 => ?_))
    · have H := H.1 e5
      refine pt_d (pt_1 (fun n d => r_aloadn gx264_16 rfl) ?_)
      refine pt_d (pt_getI (B := 55) gx264_17 S (fun v6 h6 => ?_))
      refine pt_d (pt_bipush gx264_20 (fun v7 h7 => ?_))
      refine pt_d (pt_icmp_ne gx264_22 h6 h7 (fun e8 => ?_) (fun e8 => ?_))
      · have H := H.1 e8
        refine pt_d (pt_1 (fun n d => r_aloadn gx264_28 rfl) ?_)
        refine pt_d (pt_1 (fun n d => r_aloadn gx264_29 rfl) ?_)
        refine pt_d (pt_getI (B := 55) gx264_30 S (fun v9 h9 => ?_))
        refine pt_d (pt_putI (B := 67) gx264_33 S h9 (fun h_10 S10 e10 => ?_))
        refine pt_d (pt_1 (fun n d => r_aloadn gx264_36 rfl) ?_)
        refine pt_d (pt_getR gx264_37 S10 tr_72_59 ?_)
        refine pt_d (pt_1 (fun n d => r_aloadn gx264_40 rfl) ?_)
        refine pt_d (pt_getI (B := 67) gx264_41 S10 (fun v12 h12 => ?_))
        have h12 : v12.toInt = vw h 72 55 := by rw [h12, e10, up_s]
        refine pt_d (pt_iconst gx264_44 (fun v13 h13 => ?_))
        refine pt_d (pt_iast (N' := 17) gx264_45 S10 tl_119 h12 h13 (fun h_14 S14 p14 q14 e14 => ?_))
        have H := H p14 q14
        refine pt_d (pt_1 (fun n d => r_aloadn gx264_46 rfl) ?_)
        refine pt_d (pt_iconst gx264_47 (fun v15 h15 => ?_))
        refine pt_d (pt_putI (B := 68) gx264_48 S14 h15 (fun h_16 S16 e16 => ?_))
        refine pt_d (pt_1 (fun n d => r_aloadn gx264_51 rfl) ?_)
        refine pt_d (pt_iconst gx264_52 (fun v17 h17 => ?_))
        refine pt_d (pt_putI (B := 64) gx264_53 S16 h17 (fun h_18 S18 e18 => ?_))
        refine pt_d (pt_1 (fun n d => r_aloadn gx264_56 rfl) ?_)
        refine pt_d (pt_iconst gx264_57 (fun v19 h19 => ?_))
        refine pt_d (pt_putI (B := 65) gx264_58 S18 h19 (fun h_20 S20 e20 => ?_))
        refine pt_d (pt_1 (fun n d => r_aloadn gx264_61 rfl) ?_)
        refine pt_d (pt_iconst gx264_62 (fun v21 h21 => ?_))
        refine pt_d (pt_putI (B := 66) gx264_63 S20 h21 (fun h_22 S22 e22 => ?_))
        refine pt_d (pt_1 (fun n d => r_aloadn gx264_66 rfl) ?_)
        have H := H h_22 S22 (by rw [e22, e20, e18, e16, e14, e10])
        obtain ⟨pr23, H⟩ := H
        refine pt_d (pt_virt (as := []) (r := []) gx264_67 rfl (show zmt[262]? = some zM262 from rfl) rfl rfl rfl rfl (c_262v S22 pr23) (kqN (fun h_23 P23 => ?_)))
        have S23 := P23.1
        have H := H h_23 P23
        show Pt _ _ _ 70 _ [] _ _
        exact H
      · have H := H.2 e8
        refine pt_d (pt_bipush gx264_25 (fun v24 h24 => ?_))
        exact pt_d (pt_iret gx264_27 ⟨_, rfl, by rw [h24]; exact H⟩)
    · have H := H.2 e5
      refine pt_d (pt_iconst gx264_14 (fun v25 h25 => ?_))
      exact pt_d (pt_iret gx264_15 ⟨_, rfl, by rw [h25]; exact H⟩)
theorem y264_70 {n : Nat} {X : aX} {h : aH} {P : Int → aH → Prop} {x1 x2 : Int32} {a1 a2 : Int} (S : wS h) (z1 : x1.toInt = a1) (z2 : x2.toInt = a2) (H : ((0 ≤ vw h 72 65 → Pt n X zM264 103 [some (.ref 72), some (.int x1), some (.int x2)] [] h (qI P)) ∧ (vw h 72 65 < 0 → ((mL (vw h) ≠ 59 → Pt n X zM264 103 [some (.ref 72), some (.int x1), some (.int x2)] [] h (qI P)) ∧ (mL (vw h) = 59 → ∀ h_9 : aH, wS h_9 → vw h_9 = up (vw h) 72 64 (w32 ((vw h 72 64) + 1)) → ((lpre (vw h_9)) ∧ ∀ (h_10 : aH), (wS h_10 ∧ mRes 10 (vw h_9) (vw h_10) ∧ kLine (vw h_9) (vw h_10)) → Pt n X zM264 70 [some (.ref 72), some (.int x1), some (.int x2)] [] h_10 (qI P))))))) : Pt (n + 1) X zM264 70 [some (.ref 72), some (.int x1), some (.int x2)] [] h (qI P) := by
  refine pt_1 (fun n d => r_aloadn gx264_70 rfl) ?_
  refine pt_d (pt_getI (B := 65) gx264_71 S (fun v1 h1 => ?_))
  refine pt_d (pt_if_ge gx264_74 h1 (fun e2 => ?_) (fun e2 => ?_))
  · have H := H.1 e2
    exact H
  · have H := H.2 e2
    refine pt_d (pt_1 (fun n d => r_aloadn gx264_77 rfl) ?_)
    refine pt_d (pt_virt (as := []) (r := []) gx264_78 rfl (show zmt[251]? = some zM251 from rfl) rfl rfl rfl rfl (c_251 S) (kqP (fun v3 h3 => ?_)))
    show Pt _ _ _ 81 _ [.int v3] _ _
    refine pt_d (pt_bipush gx264_81 (fun v4 h4 => ?_))
    refine pt_d (pt_icmp_ne gx264_83 h3 h4 (fun e5 => ?_) (fun e5 => ?_))
    · have H := H.1 e5
      exact H
    · have H := H.2 e5
      refine pt_d (pt_1 (fun n d => r_aloadn gx264_86 rfl) ?_)
      refine pt_d (pt_1 (fun n d => r_dup gx264_87 rfl) ?_)
      refine pt_d (pt_getI (B := 64) gx264_88 S (fun v6 h6 => ?_))
      refine pt_d (pt_iconst gx264_91 (fun v7 h7 => ?_))
      refine pt_d (pt_iadd gx264_92 h6 h7 (fun v8 h8 => ?_))
      refine pt_d (pt_putI (B := 64) gx264_93 S h8 (fun h_9 S9 e9 => ?_))
      refine pt_d (pt_1 (fun n d => r_aloadn gx264_96 rfl) ?_)
      have H := H h_9 S9 (by rw [e9])
      obtain ⟨pr10, H⟩ := H
      refine pt_d (pt_virt (as := []) (r := []) gx264_97 rfl (show zmt[262]? = some zM262 from rfl) rfl rfl rfl rfl (c_262v S9 pr10) (kqN (fun h_10 P10 => ?_)))
      have S10 := P10.1
      have H := H h_10 P10
      show Pt _ _ _ 100 _ [] _ _
      refine pt_d (pt_1 (fun n d => r_goto gx264_100) ?_)
      exact H
def f119 (V V' : vS) : Prop := ∀ (c : Nat) j, 119 ≤ c → c ≤ 123 → V' c j = V c j
theorem m_125v {n : Nat} {X : aX} {h : aH} {x1 x2 : Int32} {w y : Int} (S : wS h) (h1 : x1.toInt = w) (h2 : x2.toInt = y) : Pt n X zM264 125 [some (.ref 72), some (.int x1), some (.int x2)] [] h (qI (fun _ h' => f119 (vw h) (vw h') ∧ (vw h' 72 55 ≠ vw h 72 55 → vw h 72 65 < 0))) := by
  refine pt_d (d264_125 S h1 h2 ⟨fun lt p q g S2 eg => ⟨fun c j a b => ?_, fun _ => lt⟩, fun ge g S2 eg => ⟨fun c j a b => ?_, fun ne => ?_⟩⟩)
  · rw [eg, up_c (by omega), up_c (by omega), up_c (by omega), up_c (by omega), up_c (by omega)]
  · rw [eg, up_c (by omega)]
  · rw [eg, up_j (by decide)] at ne
    exact absurd rfl ne
theorem m_103v {n : Nat} {X : aX} {h : aH} {x1 x2 : Int32} {w y : Int} (S : wS h) (h1 : x1.toInt = w) (h2 : x2.toInt = y) (H : mlp (vw h)) : Pt n X zM264 103 [some (.ref 72), some (.int x1), some (.int x2)] [] h (qI (fun _ h' => f119 (vw h) (vw h') ∧ (vw h' 72 55 ≠ vw h 72 55 → vw h 72 65 < 0))) := by
  have h0 := H.2.2.1
  refine pt_d (d264_103 S h1 h2 ⟨fun ge => m_125v S h1 h2, fun lt => ⟨fun ge => m_125v S h1 h2, fun l2 g k => ?_⟩⟩)
  rcases k.2 with ⟨z, -⟩ | ⟨-, z⟩
  · omega
  · refine pt_q (m_125v k.1 h1 h2) ?_
    rintro v h' ⟨x, ex, p1, p2⟩
    refine ⟨x, ex, fun c j a b => (p1 c j a b).trans (by rw [z, up_c (by omega)]), fun _ => lt⟩
theorem l_264v {X : aX} {w y : Int} : ∀ (n : Nat) (h : aH) (x1 x2 : Int32), wS h → x1.toInt = w → x2.toInt = y → mlp (vw h) → kpre (vw h) → (vw h 72 65 < 0 → vw h 72 66 = 0) → 0 ≤ vw h 119 (vw h 72 67) → (vw h 72 65 < 0 → 2 * vw h 119 (vw h 72 67) ≤ vw h 72 64 + 1) → Pt n X zM264 70 [some (.ref 72), some (.int x1), some (.int x2)] [] h (qI (fun _ h' => (∀ j, j ≠ vw h 72 67 → vw h' 119 j = vw h 119 j) ∧ (∀ j, j < 90 * vw h 72 67 + vw h 119 (vw h 72 67) → vw h' 120 j = vw h 120 j ∧ vw h' 121 j = vw h 121 j) ∧ (∀ j, j < 170 * vw h 72 67 + vw h 72 68 → vw h' 122 j = vw h 122 j ∧ vw h' 123 j = vw h 123 j) ∧ (vw h' 72 55 ≠ vw h 72 55 → vw h 72 65 < 0 ∧ vw h' 119 (vw h 72 67) ≤ 90 ∧ ∃ ls, lnT (mT (vw h)) (vw h 72 64) ls ∧ lAtR (vw h') (vw h 72 67) (vw h 72 68) (vw h 119 (vw h 72 67)) ls))) := by
  intro n
  induction n with
  | zero => exact fun _ _ _ _ _ _ _ _ _ _ _ => pt_z
  | succ n ih =>
    intro h x1 x2 S h1 h2 H K o0 m0 m2
    have h160 := H.2.2.2
    have h64 := H.2.2.1
    have stop : (vw h 72 65 < 0 → mT (vw h) (vw h 72 64) ≠ 59) → Pt n X zM264 103 [some (.ref 72), some (.int x1), some (.int x2)] [] h (qI (fun _ h' => (∀ j, j ≠ vw h 72 67 → vw h' 119 j = vw h 119 j) ∧ (∀ j, j < 90 * vw h 72 67 + vw h 119 (vw h 72 67) → vw h' 120 j = vw h 120 j ∧ vw h' 121 j = vw h 121 j) ∧ (∀ j, j < 170 * vw h 72 67 + vw h 72 68 → vw h' 122 j = vw h 122 j ∧ vw h' 123 j = vw h 123 j) ∧ (vw h' 72 55 ≠ vw h 72 55 → vw h 72 65 < 0 ∧ vw h' 119 (vw h 72 67) ≤ 90 ∧ ∃ ls, lnT (mT (vw h)) (vw h 72 64) ls ∧ lAtR (vw h') (vw h 72 67) (vw h 72 68) (vw h 119 (vw h 72 67)) ls))) := fun no => by
      refine pt_q (m_103v S h1 h2 H) ?_
      rintro v h' ⟨x, ex, p1, p2⟩
      have e119 : ∀ j, vw h' 119 j = vw h 119 j := fun j => p1 119 j (by decide) (by decide)
      refine ⟨x, ex, fun j _ => e119 j, fun j _ => ⟨p1 120 j (by decide) (by decide), p1 121 j (by decide) (by decide)⟩, fun j _ => ⟨p1 122 j (by decide) (by decide), p1 123 j (by decide) (by decide)⟩, fun ne => ?_⟩
      have lt := p2 ne
      have m3 := m2 lt
      exact ⟨lt, by rw [e119]; omega, [], no lt, e119 _⟩
    refine y264_70 S h1 h2 ⟨fun ge => stop (fun z => by omega), fun lt => ⟨fun ne => stop (fun _ => by rw [← mL_T h64.1]; exact ne), fun e59 h65 S65 e65 => ?_⟩⟩
    obtain ⟨k1, k2, k3, k4, k5, k6, k7, k8⟩ := m_here H lt (by decide) e59 e65
    have m3 := m2 lt
    have x65 : ∀ c j, (c = 72 → j ≠ 64) → vw h65 c j = vw h c j := fun c j z => by
      rw [k3]
      by_cases w : c = 72
      · subst w
        exact up_j (z rfl)
      · exact up_c w
    have y65 : ∀ j, j ≠ 64 → vw h65 72 j = vw h 72 j := fun j z => x65 72 j (fun _ => z)
    have z65 : ∀ (c : Nat) j, c ≠ 72 → vw h65 c j = vw h c j := fun c j z => x65 c j (fun e => absurd e z)
    refine ⟨⟨⟨k2, k_up K k3⟩, by rw [k5]; exact o0 lt, by rw [y65 67 (by decide), z65 119 _ (by decide)]; exact m0, by rw [y65 67 (by decide), z65 119 _ (by decide), k4]; exact m3⟩, fun h66 k66 => ?_⟩
    obtain ⟨S66, c66, l66⟩ := k66
    have H6 := mRes_p k2 c66
    obtain ⟨K6, r67, l68, a119, a120, a122, suc⟩ := l66
    rw [y65 67 (by decide)] at r67 a119 a120 a122 suc
    rw [y65 68 (by decide)] at l68 a122 suc
    rw [z65 119 _ (by decide)] at a119 a120 suc
    rw [k4, k6] at suc
    obtain ⟨F1, q1, f1, p1, b1, b2, b3, b4⟩ := c66
    have pb := pr_b k2.2.2.1.1 p1
    rw [k4] at pb
    have n119 : vw h66 119 (vw h 72 67) = vw h 119 (vw h 72 67) + 1 := by rw [a119, if_pos rfl]
    have e55 : vw h66 72 55 = vw h 72 55 := (F1 72 55 (by decide) (by decide) (by decide) (by decide) (by decide) (fun _ => by decide)).trans (y65 55 (by decide))
    refine pt_q (ih h66 x1 x2 S66 h1 h2 H6 K6 (fun z => by rw [b3 (by omega), k5]; exact o0 lt) (by rw [r67, n119]; omega) (fun z => by
      rw [r67, n119, b1]
      have := pb.2.2 (by omega)
      omega)) ?_
    rintro v h' ⟨x, ex, q1', q2', q3', q4'⟩
    rw [r67] at q1' q2' q3' q4'
    rw [n119] at q2' q4'
    refine ⟨x, ex, fun j z => ?_, fun j z => ?_, fun j z => ?_, fun ne => ?_⟩
    · rw [q1' j z, a119, if_neg z]
      exact z65 119 j (by decide)
    · have u := q2' j (by omega)
      have t := a120 j z
      rw [z65 120 j (by decide), z65 121 j (by decide)] at t
      exact ⟨u.1.trans t.1, u.2.trans t.2⟩
    · have u := q3' j (by omega)
      have t := a122 j z
      rw [z65 122 j (by decide), z65 123 j (by decide)] at t
      exact ⟨u.1.trans t.1, u.2.trans t.2⟩
    · obtain ⟨lt6, n90, ls, t1, t2⟩ := q4' (by rw [e55]; exact ne)
      obtain ⟨q, M, L, d, s1, s2, s3, s4, s5⟩ := suc lt6
      rw [mfr_T F1, k6, s1] at t1
      have i1 := q2' (90 * vw h 72 67 + vw h 119 (vw h 72 67)) (by omega)
      have kb := K6.2
      have h6 := H6.2.2
      refine ⟨lt, n90, (M, L) :: ls, ⟨by rw [← mL_T h64.1]; exact e59, q, d, t1⟩, ⟨i1.1.trans s2, i1.2.trans s3, by omega, cAt_k _ _ (fun j u v => q3' j (by rw [s4]; rw [List.length_append] at v; omega)) s5⟩, ?_⟩
      rw [s4] at t2
      exact t2
def R264v (V V' : vS) : Prop := (∀ j, j ≠ V 72 55 → V' 119 j = V 119 j) ∧ (∀ j, j < 90 * V 72 55 → V' 120 j = V 120 j ∧ V' 121 j = V 121 j) ∧ (∀ j, j < 170 * V 72 55 → V' 122 j = V 122 j ∧ V' 123 j = V 123 j) ∧ (V' 72 55 ≠ V 72 55 → V' 119 (V 72 55) ≤ 90 ∧ ∃ ls, Lns (mT V) 0 ls ∧ lAtR V' (V 72 55) 0 0 ls)
theorem c_264v {n : Nat} {X : aX} {h : aH} {x1 x2 : Int32} {a1 a2 : Int} (S : wS h) (z1 : x1.toInt = a1) (z2 : x2.toInt = a2) (hp : (0 ≤ vw h 72 54 ∧ vw h 72 54 ≤ 160) ∧ 0 ≤ vw h 72 55 ∧ vw h 72 55 ≤ 16) : Pt n X zM264 0 [some (.ref 72), some (.int x1), some (.int x2)] [] h (qI (fun y h' => R264 (vw h) a1 a2 y (vw h') ∧ R264v (vw h) (vw h'))) := by
  refine pt_q (pt_and (c_264 S z1 z2 hp) (show Pt n X zM264 0 [some (.ref 72), some (.int x1), some (.int x2)] [] h (qI (fun _ h' => R264v (vw h) (vw h'))) from ?_)) ?_
  · have same : R264v (vw h) (vw h) := ⟨fun _ _ => rfl, fun _ _ => ⟨rfl, rfl⟩, fun _ _ => ⟨rfl, rfl⟩, fun z => absurd rfl z⟩
    refine pt_d (y264_0 S z1 z2 ⟨fun e => same, fun e => ⟨fun e2 => ⟨fun ne _ _ g S2 eg => ?_, fun e3 => same⟩, fun e2 => same⟩⟩)
    have s64 : vw g 72 64 = 0 := by rw [eg, up_j (by decide), up_j (by decide), up_s]
    have s65 : vw g 72 65 = -1 := by rw [eg, up_j (by decide), up_s]
    have s66 : vw g 72 66 = 0 := by rw [eg, up_s]
    have s67 : vw g 72 67 = vw h 72 55 := by rw [eg, up_j (by decide), up_j (by decide), up_j (by decide), up_j (by decide), up_c (by decide), up_s]
    have s68 : vw g 72 68 = 0 := by rw [eg, up_j (by decide), up_j (by decide), up_j (by decide), up_s]
    have F : mfr (vw h) (vw g) := by rw [eg]; exact mfr_u (mfr_u (mfr_u (mfr_u (mfr_a (mfr_u (mfr_r _) (by decide)) (by decide)) (by decide)) (by decide)) (by decide)) (by decide)
    have e54 := mfr_54 F
    have e55 : vw g 72 55 = vw h 72 55 := F 72 55 (by decide) (by decide) (by decide) (by decide) (by decide) (fun _ => by decide)
    have eT := mfr_T F
    have g119 : ∀ j, vw g 119 j = if j = vw h 72 55 then 0 else vw h 119 j := fun j => by rw [eg, up_c (by decide), up_c (by decide), up_c (by decide), up_c (by decide), up_p, up_c (by decide)]
    have gx : ∀ (c : Nat) j, c ≠ 72 → c ≠ 119 → vw g c j = vw h c j := fun c j u v => by rw [eg, up_c u, up_c u, up_c u, up_c u, up_c v, up_c u]
    have H0 : mpre (vw g) := ⟨s65, by rw [s66]; decide, by rw [s64, e54]; exact ⟨Int.le_refl _, hp.1.1⟩, by rw [e54]; exact hp.1.2⟩
    have K0 : kpre (vw g) := ⟨by rw [s67]; omega, by rw [s68]; decide, by rw [s68, s64]; decide⟩
    have m0 : vw g 119 (vw g 72 67) = 0 := by rw [s67, g119, if_pos rfl]
    refine ⟨⟨⟨H0, K0⟩, s66, by rw [m0]; decide, by rw [m0, s64]; decide⟩, fun h23 k23 => ?_⟩
    obtain ⟨S23, c23, l23⟩ := k23
    have H6 := mRes_p H0 c23
    obtain ⟨K6, r67, l68, a119, a120, a122, suc⟩ := l23
    rw [m0, s67] at a119 a120 suc
    rw [s67] at r67 a122
    rw [s68] at l68 a122 suc
    rw [s64, eT] at suc
    obtain ⟨F1, q1, f1, p1, b1, b2, b3, b4⟩ := c23
    have pb := pr_b H0.2.2.1.1 p1
    rw [s64] at pb
    have n119 : vw h23 119 (vw h 72 55) = 1 := by rw [a119, if_pos rfl]; rfl
    have g55 : vw h23 72 55 = vw h 72 55 := (F1 72 55 (by decide) (by decide) (by decide) (by decide) (by decide) (fun _ => by decide)).trans e55
    refine pt_q (l_264v n h23 x1 x2 S23 z1 z2 H6 K6 (fun z => by rw [b3 (by omega)]; exact s66) (by rw [r67, n119]; decide) (fun z => by
      rw [r67, n119, b1]
      have := pb.2.2 (by omega)
      omega)) ?_
    rintro v h' ⟨x, ex, q1', q2', q3', q4'⟩
    rw [r67] at q1' q2' q3' q4'
    rw [n119] at q2' q4'
    refine ⟨x, ex, fun j z => ?_, fun j z => ?_, fun j z => ?_, fun ne => ?_⟩
    · rw [q1' j z, a119, if_neg z, g119, if_neg z]
    · have u := q2' j (by omega)
      have t := a120 j (by omega)
      rw [gx 120 j (by decide) (by decide), gx 121 j (by decide) (by decide)] at t
      exact ⟨u.1.trans t.1, u.2.trans t.2⟩
    · have u := q3' j (by omega)
      have t := a122 j (by omega)
      rw [gx 122 j (by decide) (by decide), gx 123 j (by decide) (by decide)] at t
      exact ⟨u.1.trans t.1, u.2.trans t.2⟩
    · obtain ⟨lt6, n90, ls, t1, t2⟩ := q4' (by rw [g55]; exact ne)
      obtain ⟨q, M, L, d, s1, s2, s3, s4, s5⟩ := suc lt6
      rw [mfr_T F1, eT, s1] at t1
      have i1 := q2' (90 * vw h 72 55 + 0) (by omega)
      have kb := K6.2
      have h6 := H6.2.2
      refine ⟨n90, (M, L) :: ls, ⟨q, d, t1⟩, ⟨i1.1.trans s2, i1.2.trans s3, by omega, cAt_k _ _ (fun j u v => q3' j (by rw [s4]; rw [List.length_append] at v; omega)) s5⟩, ?_⟩
      rw [s4] at t2
      exact t2
  · rintro v h' ⟨⟨x, rfl, p1⟩, ⟨x', ev, p2⟩⟩
    exact ⟨x, rfl, p1, p2⟩
end
section
-- ===== the reference keeps the texts laid out =====
def JCode (V : vS) : Prop := ∀ t, 0 ≤ t → t < V 33 7 → (0 ≤ V 36 t ∧ V 36 t ≤ 160) ∧ V 119 t ≤ 90 ∧ ∃ ls, Lns (oT V t) 0 ls ∧ lAtR V t 0 0 ls
def LCode : List (Nat × Option Nat) := [(33, some 7), (35, none), (36, none), (119, none), (120, none), (121, none), (122, none), (123, none)]
theorem JCode_ag {V W : vS} (J : JCode V) (A : ag LCode V W) : JCode W := by
  obtain ⟨a1, a2, a3, a4, a5, a6, a7, a8, -⟩ := A
  have a1 : W 33 7 = V 33 7 := a1
  intro t t0 t1
  rw [a1] at t1
  obtain ⟨j1, j2, ls, j3, j4⟩ := J t t0 t1
  refine ⟨by rw [a3]; exact j1, by rw [a4]; exact j2, ls, ?_, lAtR_k ls 0 0 (a4 t) (fun j _ _ => ⟨a5 _, a6 _⟩) (fun j _ => ⟨a7 j, a8 j⟩) j4⟩
  have e : oT W t = oT V t := by
    funext p
    unfold oT
    rw [a3, a2]
  rw [e]
  exact j3
theorem JCode_dG {W : List (Nat × Nat)} {σ σ1 : List Nat} {h h1 : aH} (J : JCode (vw h)) (I : dI σ h) (G : dG W σ h σ1 h1) (k : frL W LCode = true) : JCode (vw h1) := JCode_ag J (ag_dG I.1 G _ k)
theorem zJCode0 : JCode (vw zH0) := by
  have e3 : vw zH0 33 7 = 0 := vzf (i := 7) (x := 0) zh33 rfl
  intro t t0 t1
  rw [e3] at t1
  omega
theorem jc_24 {V V1 V2 : vS} {w y r1 r2 : Int} (J : JTxt V) (C : JCode V) (c : R168 V w y r1 V1) (m : R264 V1 w y r2 V2) (mv : R264v V1 V2) (b34 : ∀ j, 0 ≤ j → j < 160 → -128 ≤ V 34 j ∧ V 34 j ≤ 127) (b35 : ∀ j, 0 ≤ j → j < 2560 → -128 ≤ V 35 j ∧ V 35 j ≤ 127) : JCode V2 := by
  have eT := tT_e J
  obtain ⟨⟨j1, j2, j3⟩, j4, ⟨j5, j6, j7⟩, j8⟩ := J
  rcases c with ⟨a, -, rfl⟩ | ⟨a, c⟩
  · rcases m with ⟨-, -, rfl⟩ | ⟨a', -⟩
    · exact C
    · exact absurd a' a
  rcases c with ⟨ge, -, rfl⟩ | ⟨lt, q, f, p, c⟩
  · rcases m with ⟨a', -⟩ | ⟨-, ⟨b', -, rfl⟩ | ⟨b', -⟩⟩
    · exact absurd a a'
    · exact C
    · omega
  -- what the class leaves, of what is wanted here
  have w36 : ∀ t, W118 V 36 t = if t = V 33 7 then V 33 1 else V 36 t := fun t => by
    unfold W118
    rw [up_c (by decide), up_p, cpy_c (by decide)]
  have w35 : ∀ j, W118 V 35 j = if 160 * V 33 7 ≤ j ∧ j < 160 * V 33 7 + V 33 1 then V 34 (j - 160 * V 33 7) else V 35 j := fun j => by
    unfold W118
    rw [up_c (by decide), up_c (by decide)]
    unfold cpy
    by_cases z : 160 * V 33 7 ≤ j ∧ j < 160 * V 33 7 + V 33 1
    · rw [if_pos z, if_pos ⟨rfl, z⟩, Int.zero_add]
    · rw [if_neg z, if_neg (fun w => z w.2)]
  have wx : ∀ (c : Nat) j, 40 ≤ c → W118 V c j = V c j := fun c j h => by
    unfold W118
    rw [up_c (by omega), up_c (by omega), cpy_c (by omega)]
  have v1 : (∀ j, V1 36 j = W118 V 36 j) ∧ (∀ j, V1 35 j = W118 V 35 j) ∧ (∀ (c : Nat) j, 40 ≤ c → V1 c j = V c j) ∧ ((V1 33 7 = V 33 7 + 1 ∨ V1 33 7 = V 33 7)) := by
    rcases c with ⟨F, -, fr⟩ | ⟨F, -, fr⟩
    · refine ⟨fun j => ?_, fun j => ?_, fun c j h => ?_, Or.inl ?_⟩
      · rw [fr 36 j (Or.inl (by decide)), up_c (by decide), up_c (by decide), up_c (by decide), up_c (by decide)]
      · rw [fr 35 j (Or.inl (by decide)), up_c (by decide), up_c (by decide), up_c (by decide), up_c (by decide)]
      · rw [fr c j (Or.inl (by omega)), up_c (by omega), up_c (by omega), up_c (by omega), up_c (by omega)]
        exact wx c j h
      · rw [fr 33 7 (Or.inr (by decide)), up_s]
    · refine ⟨fun j => fr 36 j (Or.inl (by decide)), fun j => fr 35 j (Or.inl (by decide)), fun c j h => (fr c j (Or.inl (by omega))).trans (wx c j h), Or.inr ?_⟩
      rw [fr 33 7 (Or.inr (by decide))]
      unfold W118
      rw [up_j (c' := 33) (by decide), up_c (by decide), cpy_c (by decide)]
  obtain ⟨v36, v35, v40, v7⟩ := v1
  -- and the reference
  have v2 : (∀ j, V2 36 j = V1 36 j) ∧ (∀ j, V2 35 j = V1 35 j) ∧ V2 33 7 = V1 33 7 := by
    rcases m with ⟨a', -⟩ | ⟨-, ⟨b', -, rfl⟩ | ⟨b', q', f', p', mf⟩⟩
    · exact absurd a a'
    · exact ⟨fun _ => rfl, fun _ => rfl, rfl⟩
    · rcases mf with ⟨-, -, M⟩ | ⟨-, -, M⟩
      · refine ⟨fun j => ?_, fun j => ?_, ?_⟩
        · rw [M 36 j (by decide) (by decide) (by decide) (by decide) (by decide) (fun e => absurd e (by decide)), up_c (by decide), up_c (by decide), up_c (by decide), up_c (by decide), up_c (by decide)]
        · rw [M 35 j (by decide) (by decide) (by decide) (by decide) (by decide) (fun e => absurd e (by decide)), up_c (by decide), up_c (by decide), up_c (by decide), up_c (by decide), up_c (by decide)]
        · rw [M 33 7 (by decide) (by decide) (by decide) (by decide) (by decide) (fun e => absurd e (by decide)), up_c (by decide), up_c (by decide), up_c (by decide), up_c (by decide), up_c (by decide)]
      · refine ⟨fun j => ?_, fun j => ?_, ?_⟩
        · rw [M 36 j (by decide) (by decide) (by decide) (by decide) (by decide) (fun e => absurd e (by decide)), up_c (by decide)]
        · rw [M 35 j (by decide) (by decide) (by decide) (by decide) (by decide) (fun e => absurd e (by decide)), up_c (by decide)]
        · rw [M 33 7 (by decide) (by decide) (by decide) (by decide) (by decide) (fun e => absurd e (by decide)), up_c (by decide)]
  obtain ⟨z36, z35, z7⟩ := v2
  have n55 : V1 72 55 = V 33 7 := (v40 72 55 (by decide)).trans j5.symm
  obtain ⟨m1, m2, m3, m4⟩ := mv
  rw [n55] at m1 m2 m3 m4
  intro t t0 t1
  rw [z7] at t1
  by_cases tn : t = V 33 7
  · -- the new text: it was made
    have ne : V2 72 55 ≠ V 33 7 := fun e => by
      rcases c with ⟨F, -, fr⟩ | ⟨F, -, fr⟩
      · rcases m with ⟨a', -⟩ | ⟨-, ⟨b', -⟩ | ⟨b', q', f', p', mf⟩⟩
        · exact absurd a a'
        · omega
        · have k1 : mT V1 = mT V := by
            funext p
            unfold mT
            rw [v40 72 54 (by decide), v40 115 p (by decide)]
          rw [k1, ← eT] at p'
          obtain ⟨rfl, rfl⟩ := pr_u p p'
          rw [v40 72 54 (by decide), ← j1] at mf
          rcases mf with ⟨-, -, M⟩ | ⟨F', -⟩
          · rw [M 72 55 (by decide) (by decide) (by decide) (by decide) (by decide) (fun _ => by decide), up_s, n55] at e
            omega
          · exact F' F
      · have e7 : V1 33 7 = V 33 7 := by
          rw [fr 33 7 (Or.inr (by decide))]
          unfold W118
          rw [up_j (c' := 33) (by decide), up_c (by decide), cpy_c (by decide)]
        omega
    obtain ⟨n90, ls, d, la⟩ := m4 ne
    subst tn
    have eo : oT V2 (V 33 7) = mT V1 := by
      have k1 : mT V1 = mT V := by
        funext p
        unfold mT
        rw [v40 72 54 (by decide), v40 115 p (by decide)]
      rw [k1, ← eT]
      funext p
      unfold oT tT
      rw [z36, v36, w36, if_pos rfl]
      by_cases z : 0 ≤ p ∧ p < V 33 1
      · rw [if_pos z, if_pos z, z35, v35, w35, if_pos ⟨by omega, by omega⟩]
        congr 1
        omega
      · rw [if_neg z, if_neg z]
    refine ⟨by rw [z36, v36, w36, if_pos rfl]; exact ⟨j2, j3⟩, n90, ls, by rw [eo]; exact d, la⟩
  · have lt7 : t < V 33 7 := by omega
    obtain ⟨c1, c2, ls, c3, c4⟩ := C t t0 lt7
    have e36 : V2 36 t = V 36 t := by rw [z36, v36, w36, if_neg tn]
    have eo : oT V2 t = oT V t := by
      funext p
      unfold oT
      rw [e36]
      by_cases z : 0 ≤ p ∧ p < V 36 t
      · rw [if_pos z, if_pos z, z35, v35, w35, if_neg (by omega)]
      · rw [if_neg z, if_neg z]
    have e119 : V2 119 t = V 119 t := (m1 t tn).trans (v40 119 t (by decide))
    refine ⟨by rw [e36]; exact c1, by rw [e119]; exact c2, ls, by rw [eo]; exact c3, lAtR_k ls 0 0 e119 (fun j u v => ?_) (fun j u => ?_) c4⟩
    · have x := m2 (90 * t + j) (by omega)
      exact ⟨x.1.trans (v40 120 _ (by decide)), x.2.trans (v40 121 _ (by decide))⟩
    · have x := m3 j (by omega)
      exact ⟨x.1.trans (v40 122 _ (by decide)), x.2.trans (v40 123 _ (by decide))⟩
theorem jx_24v {V V1 V2 : vS} {w y r1 r2 : Int} (J : JTxt V) (C : JCode V) (hd : V 1 0 = V 72 1) (b34 : ∀ j, 0 ≤ j → j < 160 → -128 ≤ V 34 j ∧ V 34 j ≤ 127) (b35 : ∀ j, 0 ≤ j → j < 2560 → -128 ≤ V 35 j ∧ V 35 j ≤ 127) (c : R168 V w y r1 V1) (m : R264 V1 w y r2 V2 ∧ R264v V1 V2) : (JTxt V2 ∧ JCode V2) ∧ r1 = r2 := by
  have z := jx_24 J hd c m.1
  exact ⟨⟨z.1, jc_24 J C c m.1 m.2 b34 b35⟩, z.2⟩
end
section
-- ===== what a farm is paid =====
-- what a text says hangs on the thirteen names alone
def okL : List (Int × Int) → Prop
  | [] => True
  | (w, x) :: L => (w = 2 → 0 ≤ x ∧ x ≤ 12) ∧ okL L
theorem okL_a : ∀ (L M : List (Int × Int)), okL L → okL M → okL (L ++ M)
  | [], _, _, m => m
  | (_, _) :: L, M, l, m => ⟨l.1, okL_a L M l.2 m⟩
theorem nmV_r {t : Int} (h : nmB t = true) : 0 ≤ nmV t ∧ nmV t ≤ 12 := by
  have r := nmB_r h
  have k : ∀ t : Fin 128, nmB (t.val : Int) = true → 0 ≤ nmV (t.val : Int) ∧ nmV (t.val : Int) ≤ 12 := by decide +kernel
  have k := k ⟨t.toNat, by omega⟩
  rw [show (((⟨t.toNat, by omega⟩ : Fin 128).val : Nat) : Int) = t by show ((t.toNat : Nat) : Int) = t; omega] at k
  exact k h
theorem cdF_k (T : Int → Int) : ∀ (k t : Nat) (o p q : Int) (L : List (Int × Int)), cdF T k t o p = some (q, L) → okL L
  | 0, _, _, _, _, _, e => by cases e
  | k + 1, t, o, p, q, L, e => by
    have ih := cdF_k T k
    have sq : ∀ {t1 t2 : Nat}, cdT (cdF T k t1 o p) [] (fun q => cdF T k t2 o q) = some (q, L) → okL L := fun e => by
      obtain ⟨q1, L1, L2, a, b, rfl⟩ := cdT_x e
      exact okL_a _ _ (ih _ _ _ _ _ a) (ih _ _ _ _ _ b)
    have lp : ∀ {t1 : Nat}, (bif opB t (T p) then cdT (cdF T k t1 o (p + 1)) [(T p, 0)] (fun q => cdF T k t o q) else some (p, [])) = some (q, L) → okL L := fun e => by
      cases z : opB t (T p) with
      | false =>
        rw [z] at e
        cases e
        trivial
      | true =>
        rw [z] at e
        obtain ⟨q1, L1, L2, a, b, rfl⟩ := cdT_x e
        exact okL_a _ _ (ih _ _ _ _ _ a) ⟨fun w => absurd w (opB_n z).2.1, ih _ _ _ _ _ b⟩
    match t with
    | 0 =>
      rw [ko_s] at e
      cases z1 : nmB (T p) with
      | true =>
        rw [z1] at e
        cases e
        exact ⟨fun _ => nmV_r z1, trivial⟩
      | false =>
        rw [z1] at e
        have un : ∀ w : Int, (w = 3 ∨ w = 4) → (bif o == 8 then none else cdT (cdF T k 0 (o + 1) (p + 1)) [(w, 0)] (fun q => some (q, []))) = some (q, L) → okL L := fun w hw e => by
          cases z : (o == 8) with
          | true => rw [z] at e; cases e
          | false =>
            rw [z] at e
            have e : cdT (cdF T k 0 (o + 1) (p + 1)) [(w, 0)] (fun q => some (q, [])) = some (q, L) := e
            obtain ⟨q1, L1, L2, a, b, rfl⟩ := cdT_x e
            cases b
            exact okL_a _ _ (ih _ _ _ _ _ a) ⟨fun z => by omega, trivial⟩
        cases z2 : (T p == 33) with
        | true => rw [z2] at e; exact un 3 (Or.inl rfl) e
        | false =>
          rw [z2] at e
          cases z3 : (T p == 45) with
          | true => rw [z3] at e; exact un 4 (Or.inr rfl) e
          | false =>
            rw [z3] at e
            cases z4 : (T p == 40) with
            | true =>
              rw [z4] at e
              cases z : (o == 8) with
              | true => rw [z] at e; cases e
              | false =>
                rw [z] at e
                obtain ⟨q1, L1, L2, a, b, rfl⟩ := cdT_x e
                cases z5 : (T q1 == 41) with
                | false => simp only [z5, cond_false] at b; cases b
                | true =>
                  simp only [z5, cond_true] at b
                  cases b
                  exact okL_a _ _ (ih _ _ _ _ _ a) trivial
            | false =>
              rw [z4] at e
              cases z6 : (dgEnd T 6 p == p || isD (T (dgEnd T 6 p))) with
              | true => rw [z6] at e; cases e
              | false =>
                rw [z6] at e
                cases e
                exact ⟨fun w => absurd w (by decide), trivial⟩
    | 1 => exact sq e
    | 2 => exact lp e
    | 3 => exact sq e
    | 4 => exact lp e
    | 5 => exact sq e
    | 6 => exact sq e
    | 7 => exact lp e
    | 8 => exact sq e
    | 9 => exact lp e
    | 10 => cases e
    | 11 => cases e
    | 12 =>
      rw [kch12] at e
      cases z : opB 12 (T p) with
      | false =>
        rw [z] at e
        cases e
        trivial
      | true =>
        rw [z] at e
        have e : cdT (cdF T k 3 o (p + 1)) [(T p, 0)] (fun q => some (q, [])) = some (q, L) := e
        obtain ⟨q1, L1, L2, a, b, rfl⟩ := cdT_x e
        cases b
        exact okL_a _ _ (ih _ _ _ _ _ a) ⟨fun w => absurd w (opB_n z).2.1, trivial⟩
    | _ + 13 => cases e
theorem cd_k {T : Int → Int} {t : Nat} {o p q : Int} {L : List (Int × Int)} (d : Cd T t o p q L) : okL L := by
  obtain ⟨k, d⟩ := d
  exact cdF_k T k t o p q L d
theorem stpP_k {N N' : Int → Int} {w x : Int} (h : w = 2 → N x = N' x) (st : List Int) : stpP N w x st = stpP N' w x st := by
  unfold stpP
  by_cases z : w = 2
  · rw [h z]
  · rw [if_neg z, if_neg z]
theorem run_k {N N' : Int → Int} (h : ∀ j, 0 ≤ j → j ≤ 12 → N j = N' j) : ∀ (L : List (Int × Int)) (st : List Int), okL L → run N L st = run N' L st
  | [], _, _ => rfl
  | (w, x) :: L, st, o => by
    rw [run_c, run_c, stpP_k (N' := N') (fun z => h x (o.1 z).1 (o.1 z).2)]
    exact run_k h L _ o.2
theorem evC_k {N N' : Int → Int} (h : ∀ j, 0 ≤ j → j ≤ 12 → N j = N' j) {L : List (Int × Int)} (o : okL L) : evC N L = evC N' L := by
  unfold evC
  rw [run_k h L _ o]
def okS : cLs → Prop
  | [] => True
  | (M, L) :: ls => (okL M ∧ okL L) ∧ okS ls
theorem valL_k {N N' : Int → Int} (h : ∀ j, 0 ≤ j → j ≤ 12 → N j = N' j) : ∀ (ls : cLs) (i : Int), okS ls → valL N i ls = valL N' i ls
  | [], _, _ => rfl
  | (M, L) :: ls, i, o => by
    have e1 := evC_k h o.1.1
    have e2 := evC_k h o.1.2
    by_cases z : M = [] ∨ evC N M ≠ 0
    · rw [valL_y z, valL_y (by rw [← e1]; exact z), e2]
    · rw [valL_n z, valL_n (by rw [← e1]; exact z)]
      exact valL_k h ls (i + 1) o.2
theorem ln1_k {T : Int → Int} {p q : Int} {M L : List (Int × Int)} (a : ln1 T p q (M, L)) : okL M ∧ okL L := by
  rcases a with ⟨a1, a2, -⟩ | ⟨x, a1, -, a3⟩
  · have a1 : M = [] := a1
    rw [a1]
    exact ⟨trivial, cd_k a2⟩
  · exact ⟨cd_k a1, cd_k a3⟩
theorem lnT_k {T : Int → Int} : ∀ (ls : cLs) (p : Int), lnT T p ls → okS ls
  | [], _, _ => trivial
  | (M, L) :: ls, p, ⟨_, q, a, b⟩ => ⟨ln1_k a, lnT_k ls q b⟩
theorem Lns_k {T : Int → Int} {p : Int} : ∀ (ls : cLs), Lns T p ls → okS ls
  | [], h => h.elim
  | (M, L) :: ls, ⟨q, a, b⟩ => ⟨ln1_k a, lnT_k ls q b⟩
theorem tSay_k {T N N' : Int → Int} (h : ∀ j, 0 ≤ j → j ≤ 12 → N j = N' j) : tSay T N = tSay T N' := by
  by_cases e : ∃ ls, Lns T 0 ls
  · obtain ⟨ls, d⟩ := e
    rw [tSay_e d, tSay_e d]
    exact valL_k h ls 0 (Lns_k ls d)
  · unfold tSay
    rw [dif_neg e, dif_neg e]
-- the parts of a payment
def hel (a : Int) : Int := max 0 (min 2000000000 a)
theorem hel_b (a : Int) : 0 ≤ hel a ∧ hel a ≤ 2000000000 := by unfold hel; omega
theorem hel_w (a : Int) : w32 (hel a) = hel a := by
  have := hel_b a
  exact w32_id (by omega) (by omega)
noncomputable def vlF (V : vS) (H : Int → Prop) : Nat → Int → Int → Int
  | 0, _, _ => 0
  | n + 1, i, L => @ite Int (0 < L ∧ H i) (Classical.propDecidable _) (min L 10 * V 3 (V 6 i) + vlF V H n (i + 1) (L - min L 10)) (vlF V H n (i + 1) L)
theorem vlF_t {V : vS} {H : Int → Prop} {n : Nat} {i L : Int} (h : 0 < L ∧ H i) : vlF V H (n + 1) i L = min L 10 * V 3 (V 6 i) + vlF V H n (i + 1) (L - min L 10) := if_pos h
theorem vlF_f {V : vS} {H : Int → Prop} {n : Nat} {i L : Int} (h : ¬ (0 < L ∧ H i)) : vlF V H (n + 1) i L = vlF V H n (i + 1) L := if_neg h
theorem vlF_0 {V : vS} {H : Int → Prop} : ∀ (n : Nat) (i L : Int), L ≤ 0 → vlF V H n i L = 0
  | 0, _, _, _ => rfl
  | n + 1, i, L, h => by rw [vlF_f (fun z => by omega)]; exact vlF_0 n (i + 1) L h
theorem vlF_k {V W : vS} {H H' : Int → Prop} (e3 : ∀ j, W 3 j = V 3 j) (e6 : ∀ j, W 6 j = V 6 j) (eH : ∀ i, H' i ↔ H i) : ∀ (n : Nat) (i L : Int), vlF W H' n i L = vlF V H n i L
  | 0, _, _ => rfl
  | n + 1, i, L => by
    by_cases z : 0 < L ∧ H i
    · rw [vlF_t z, vlF_t ⟨z.1, (eH i).mpr z.2⟩, e6, e3, vlF_k e3 e6 eH n]
    · rw [vlF_f z, vlF_f (fun w => z ⟨w.1, (eH i).mp w.2⟩), vlF_k e3 e6 eH n]
theorem w64_3 (a b c : Int) : w64 (w64 (a + w64 b) + c) = w64 (a + (b + c)) := by unfold w64; omega
theorem w64_j (x : Int64) : w64 x.toInt = x.toInt := w64_id (jR x).1 (jR x).2
def cHl (V : vS) (f y t : Int) : Int → Prop := fun i => cHold V (V 6 i) (ldY y) t = f

theorem d9_0 {n : Nat} {X : aX} {h : aH} {P : Int → aH → Prop} {x0 : Int64} {a0 : Int} (S : wS h) (z0 : x0.toInt = a0) (H : P (w32 (max 0 (min 2000000000 a0))) h) : Pt (n + 1) X zM9 0 [some (.long x0), none] [] h (qI P) := by
  refine pt_lconst (c := 0) gx9_0 rfl (fun v1 h1 => ?_)
  refine pt_d (pt_ldc2_w (c := 2000000000) gx9_1 rfl (fun v2 h2 => ?_))
  refine pt_d (pt_1 (fun n d => r_lloadn gx9_4 rfl) ?_)
  refine pt_d (pt_lmin gx9_5 rfl h2 z0 (fun v3 h3 => ?_))
  refine pt_d (pt_lmax gx9_8 rfl h1 h3 (fun v4 h4 => ?_))
  refine pt_d (pt_l2i gx9_11 h4 (fun v5 h5 => ?_))
  exact pt_d (pt_iret gx9_12 ⟨_, rfl, by rw [h5]; exact H⟩)
theorem c_9 {n : Nat} {X : aX} {h : aH} {x0 : Int64} {a0 : Int} (S : wS h) (z0 : x0.toInt = a0) : Pt n X zM9 0 [some (.long x0), none] [] h (qI (fun y h' => h' = h ∧ y = hel a0)) := pt_d (d9_0 S z0 ⟨rfl, hel_w a0⟩)

theorem d10_0 {n : Nat} {X : aX} {h : aH} {P : Int → aH → Prop} {x1 x2 x3 x4 : Int32} {a1 a2 a3 a4 : Int} (S : wS h) (z1 : x1.toInt = a1) (z2 : x2.toInt = a2) (z3 : x3.toInt = a3) (z4 : x4.toInt = a4) (H : (∀ (w5 : Int64) (w8 : Int32) (u9_ : Option Value) (u10_ : Option Value), w5.toInt = 0 → w8.toInt = 0 → Pt n X zM10 9 [some (.ref 41), some (.int x1), some (.int x2), some (.int x3), some (.int x4), some (.long w5), none, some (.int x1), some (.int w8), u9_, u10_] [] h (qJ P))) : Pt (n + 1) X zM10 0 [some (.ref 41), some (.int x1), some (.int x2), some (.int x3), some (.int x4), none, none, none, none, none, none] [] h (qJ P) := by
  refine pt_lconst (c := 0) gx10_0 rfl (fun v1 h1 => ?_)
  refine pt_d (pt_1 (fun n d => r_lstore (L' := [some (.ref 41), some (.int x1), some (.int x2), some (.int x3), some (.int x4), some (.long v1), none, none, none, none, none]) gx10_1 rfl rfl) ?_)
  refine pt_d (pt_1 (fun n d => r_iloadn gx10_3 rfl) ?_)
  refine pt_d (pt_1 (fun n d => r_istore (L' := [some (.ref 41), some (.int x1), some (.int x2), some (.int x3), some (.int x4), some (.long v1), none, some (.int x1), none, none, none]) gx10_4 rfl rfl) ?_)
  refine pt_d (pt_iconst gx10_6 (fun v2 h2 => ?_))
  refine pt_d (pt_1 (fun n d => r_istore (L' := [some (.ref 41), some (.int x1), some (.int x2), some (.int x3), some (.int x4), some (.long v1), none, some (.int x1), some (.int v2), none, none]) gx10_7 rfl rfl) ?_)
  exact H v1 v2 _ _ h1 h2
theorem d10_9 {n : Nat} {X : aX} {h : aH} {P : Int → aH → Prop} {x1 x2 x3 x4 x7 x8 : Int32} {x5 : Int64} {a1 a2 a3 a4 a7 a8 a5 : Int} {u9 u10 : Option Value} (S : wS h) (z1 : x1.toInt = a1) (z2 : x2.toInt = a2) (z3 : x3.toInt = a3) (z4 : x4.toInt = a4) (z5 : x5.toInt = a5) (z7 : x7.toInt = a7) (z8 : x8.toInt = a8) (H : ((vw h 1 4 ≤ a8 → P a5 h) ∧ (a8 < vw h 1 4 → ((a7 ≤ 0 → P a5 h) ∧ (0 < a7 → (0 ≤ a8 → a8 < 150 → ((vw h 1 6 ≤ 200) ∧ ((¬ (cHold (vw h) (vw h 6 a8) (ldY a3) a4 = a2) → (∀ (w8 : Int32) (u9_ : Option Value) (u10_ : Option Value), w8.toInt = w32 (a8 + 1) → Pt n X zM10 9 [some (.ref 41), some (.int x1), some (.int x2), some (.int x3), some (.int x4), some (.long x5), none, some (.int x7), some (.int w8), u9_, u10_] [] h (qJ P))) ∧ ((cHold (vw h) (vw h 6 a8) (ldY a3) a4 = a2) → (0 ≤ vw h 6 a8 → vw h 6 a8 < 150 → (∀ (w5 : Int64) (w7 : Int32) (w8 : Int32) (u9_ : Option Value) (u10_ : Option Value), w5.toInt = w64 (a5 + (w64 ((min a7 10) * (vw h 3 (vw h 6 a8))))) → w7.toInt = w32 (a7 - (min a7 10)) → w8.toInt = w32 (a8 + 1) → Pt n X zM10 9 [some (.ref 41), some (.int x1), some (.int x2), some (.int x3), some (.int x4), some (.long w5), none, some (.int w7), some (.int w8), u9_, u10_] [] h (qJ P)))))))))))) : Pt (n + 1) X zM10 9 [some (.ref 41), some (.int x1), some (.int x2), some (.int x3), some (.int x4), some (.long x5), none, some (.int x7), some (.int x8), u9, u10] [] h (qJ P) := by
  refine pt_1 (fun n d => r_iload gx10_9 rfl) ?_
  refine pt_d (pt_1 (fun n d => r_aloadn gx10_11 rfl) ?_)
  refine pt_d (pt_getR gx10_12 S tr_41_0 ?_)
  refine pt_d (pt_getI (B := 4) gx10_15 S (fun v2 h2 => ?_))
  refine pt_d (pt_icmp_ge gx10_18 z8 h2 (fun e3 => ?_) (fun e3 => ?_))
  · have H := H.1 e3
    refine pt_d (pt_1 (fun n d => r_lload gx10_93 rfl) ?_)
    exact pt_d (pt_lret gx10_95 ⟨_, rfl, by rw [z5]; exact H⟩)
  · have H := H.2 e3
    refine pt_d (pt_1 (fun n d => r_iload gx10_21 rfl) ?_)
    refine pt_d (pt_if_le gx10_23 z7 (fun e4 => ?_) (fun e4 => ?_))
    · have H := H.1 e4
      refine pt_d (pt_1 (fun n d => r_lload gx10_93 rfl) ?_)
      exact pt_d (pt_lret gx10_95 ⟨_, rfl, by rw [z5]; exact H⟩)
    · have H := H.2 e4
      refine pt_d (pt_1 (fun n d => r_aloadn gx10_26 rfl) ?_)
      refine pt_d (pt_getR gx10_27 S tr_41_0 ?_)
      refine pt_d (pt_getR gx10_30 S tr_1_11 ?_)
      refine pt_d (pt_1 (fun n d => r_iload gx10_33 rfl) ?_)
      refine pt_d (pt_iald (N' := 150) gx10_35 S tl_6 z8 (fun v7 p7 q7 h7 => ?_))
      have H := H p7 q7
      refine pt_d (pt_1 (fun n d => r_istore (L' := [some (.ref 41), some (.int x1), some (.int x2), some (.int x3), some (.int x4), some (.long x5), none, some (.int x7), some (.int x8), some (.int v7), u10]) gx10_36 rfl rfl) ?_)
      refine pt_d (pt_1 (fun n d => r_aloadn gx10_38 rfl) ?_)
      refine pt_d (pt_1 (fun n d => r_iloadn gx10_39 rfl) ?_)
      refine pt_d (pt_1 (fun n d => r_iload gx10_40 rfl) ?_)
      refine pt_d (pt_1 (fun n d => r_iloadn gx10_42 rfl) ?_)
      refine pt_d (pt_1 (fun n d => r_iload gx10_43 rfl) ?_)
      obtain ⟨pr8, H⟩ := H
      refine pt_d (pt_virt (as := [.int x2, .int v7, .int x3, .int x4]) (r := []) gx10_45 rfl (show zmt[7]? = some zM7 from rfl) rfl rfl rfl rfl (c_7 S z2 h7 z3 z4 pr8) (kqP (fun v8 h8 => ?_)))
      show Pt _ _ _ 48 _ [.int v8] _ _
      refine pt_d (pt_ifB_eq gx10_48 h8 (fun e9 => ?_) (fun e9 => ?_))
      · have H := H.1 e9
        refine pt_d (pt_iinc (c := 1) gx10_87 rfl z8 (fun v10 h10 => ?_))
        show Pt _ _ _ _ [some (.ref 41), some (.int x1), some (.int x2), some (.int x3), some (.int x4), some (.long x5), none, some (.int x7), some (.int v10), some (.int v7), u10] [] _ _
        refine pt_d (pt_1 (fun n d => r_goto gx10_90) ?_)
        exact H v10 _ _ h10
      · have H := H.2 e9
        refine pt_d (pt_1 (fun n d => r_iload gx10_51 rfl) ?_)
        refine pt_d (pt_bipush gx10_53 (fun v11 h11 => ?_))
        refine pt_d (pt_min gx10_55 rfl z7 h11 (fun v12 h12 => ?_))
        refine pt_d (pt_1 (fun n d => r_istore (L' := [some (.ref 41), some (.int x1), some (.int x2), some (.int x3), some (.int x4), some (.long x5), none, some (.int x7), some (.int x8), some (.int v7), some (.int v12)]) gx10_58 rfl rfl) ?_)
        refine pt_d (pt_1 (fun n d => r_lload gx10_60 rfl) ?_)
        refine pt_d (pt_1 (fun n d => r_iload gx10_62 rfl) ?_)
        refine pt_d (pt_i2l gx10_64 h12 (fun v13 h13 => ?_))
        refine pt_d (pt_1 (fun n d => r_aloadn gx10_65 rfl) ?_)
        refine pt_d (pt_getR gx10_66 S tr_41_0 ?_)
        refine pt_d (pt_getR gx10_69 S tr_1_8 ?_)
        refine pt_d (pt_1 (fun n d => r_iload gx10_72 rfl) ?_)
        refine pt_d (pt_iald (N' := 150) gx10_74 S tl_3 h7 (fun v16 p16 q16 h16 => ?_))
        have H := H p16 q16
        refine pt_d (pt_i2l gx10_75 h16 (fun v17 h17 => ?_))
        refine pt_d (pt_lmul gx10_76 h13 h17 (fun v18 h18 => ?_))
        refine pt_d (pt_ladd gx10_77 z5 h18 (fun v19 h19 => ?_))
        refine pt_d (pt_1 (fun n d => r_lstore (L' := [some (.ref 41), some (.int x1), some (.int x2), some (.int x3), some (.int x4), some (.long v19), none, some (.int x7), some (.int x8), some (.int v7), some (.int v12)]) gx10_78 rfl rfl) ?_)
        refine pt_d (pt_1 (fun n d => r_iload gx10_80 rfl) ?_)
        refine pt_d (pt_1 (fun n d => r_iload gx10_82 rfl) ?_)
        refine pt_d (pt_isub gx10_84 z7 h12 (fun v20 h20 => ?_))
        refine pt_d (pt_1 (fun n d => r_istore (L' := [some (.ref 41), some (.int x1), some (.int x2), some (.int x3), some (.int x4), some (.long v19), none, some (.int v20), some (.int x8), some (.int v7), some (.int v12)]) gx10_85 rfl rfl) ?_)
        refine pt_d (pt_iinc (c := 1) gx10_87 rfl z8 (fun v21 h21 => ?_))
        show Pt _ _ _ _ [some (.ref 41), some (.int x1), some (.int x2), some (.int x3), some (.int x4), some (.long v19), none, some (.int v20), some (.int v21), some (.int v7), some (.int v12)] [] _ _
        refine pt_d (pt_1 (fun n d => r_goto gx10_90) ?_)
        exact H v19 v20 v21 _ _ h19 h20 h21
theorem l_10 {X : aX} {h : aH} {x1 x2 x3 x4 : Int32} {f y t : Int} (S : wS h) (h6 : vw h 1 6 ≤ 200) (h4 : vw h 1 4 ≤ 150) (z2 : x2.toInt = f) (z3 : x3.toInt = y) (z4 : x4.toInt = t) : ∀ (n : Nat) (x5 : Int64) (x7 x8 : Int32) (u9 u10 : Option Value) (i : Int), x8.toInt = i → 0 ≤ i → i ≤ 150 → Pt n X zM10 9 [some (.ref 41), some (.int x1), some (.int x2), some (.int x3), some (.int x4), some (.long x5), none, some (.int x7), some (.int x8), u9, u10] [] h (qJ (fun r h' => h' = h ∧ r = w64 (x5.toInt + vlF (vw h) (cHl (vw h) f y t) (vw h 1 4 - i).toNat i x7.toInt))) := by
  intro n
  induction n with
  | zero => exact fun _ _ _ _ _ _ _ _ _ => pt_z
  | succ n ih =>
    intro x5 x7 x8 u9 u10 i h8 i0 i1
    have r7 := iR x7
    refine d10_9 S rfl z2 z3 z4 rfl rfl h8 ⟨fun ge => ⟨rfl, ?_⟩, fun lt => ⟨fun l0 => ⟨rfl, ?_⟩, fun l1 _ _ => ⟨h6, fun nh w8 u9' u10' g8 => ?_, fun hh _ _ w5 w7 w8 u9' u10' g5 g7 g8 => ?_⟩⟩⟩
    · rw [show (vw h 1 4 - i).toNat = 0 by omega]
      show x5.toInt = w64 (x5.toInt + 0)
      rw [Int.add_zero, w64_j]
    · rw [vlF_0 _ _ _ l0, Int.add_zero, w64_j]
    · replace g8 := w_1 g8 (by omega) (by omega)
      refine pt_q (ih x5 x7 w8 u9' u10' (i + 1) g8 (by omega) (by omega)) ?_
      rintro v h' ⟨x, ex, p1, p2⟩
      refine ⟨x, ex, p1, ?_⟩
      rw [show (vw h 1 4 - i).toNat = (vw h 1 4 - (i + 1)).toNat + 1 by omega, vlF_f (H := cHl (vw h) f y t) (fun z => nh z.2)]
      exact p2
    · replace g8 := w_1 g8 (by omega) (by omega)
      rw [w32_id (by omega) (by omega)] at g7
      refine pt_q (ih w5 w7 w8 u9' u10' (i + 1) g8 (by omega) (by omega)) ?_
      rintro v h' ⟨x, ex, p1, p2⟩
      refine ⟨x, ex, p1, ?_⟩
      rw [show (vw h 1 4 - i).toNat = (vw h 1 4 - (i + 1)).toNat + 1 by omega, vlF_t (H := cHl (vw h) f y t) ⟨l1, hh⟩, p2, g5, g7, w64_3]
theorem c_10 {n : Nat} {X : aX} {h : aH} {x1 x2 x3 x4 : Int32} {a1 a2 a3 a4 : Int} (S : wS h) (z1 : x1.toInt = a1) (z2 : x2.toInt = a2) (z3 : x3.toInt = a3) (z4 : x4.toInt = a4) (hp : vw h 1 6 ≤ 200 ∧ vw h 1 4 ≤ 150) : Pt n X zM10 0 [some (.ref 41), some (.int x1), some (.int x2), some (.int x3), some (.int x4), none, none, none, none, none, none] [] h (qJ (fun y h' => h' = h ∧ y = w64 (vlF (vw h) (cHl (vw h) a2 a3 a4) (vw h 1 4).toNat 0 a1))) := by
  refine pt_d (d10_0 S z1 z2 z3 z4 (fun w5 w8 u9 u10 g5 g8 => ?_))
  refine pt_q (l_10 S hp.1 hp.2 z2 z3 z4 n w5 x1 w8 u9 u10 0 g8 (Int.le_refl _) (by decide)) ?_
  rintro v h' ⟨x, ex, p1, p2⟩
  refine ⟨x, ex, p1, ?_⟩
  rw [p2, g5, z1, Int.zero_add, Int.sub_zero]
end
section
-- ===== what a farm is paid =====
theorem d11_0 {n : Nat} {X : aX} {h : aH} {P : Int → aH → Prop} {x1 x2 : Int32} {a1 a2 : Int} (S : wS h) (z1 : x1.toInt = a1) (z2 : x2.toInt = a2) (H : ((a2 = (-1) → P (hel (w64 (a1 + (jDiv (w64 (a1 * 3)) 10)))) h) ∧ (a2 ≠ (-1) → ((tOK (vw h) a2) ∧ ∀ (y15 : Int) (h_15 : aH), (wS h_15 ∧ R121 (vw h) a2 y15 (vw h_15)) → ((y15 = 0 → P a1 h_15) ∧ (y15 ≠ 0 → P (hel (w64 (a1 + (jDiv (w64 (a1 * 3)) 10)))) h_15)))))) : Pt (n + 1) X zM11 0 [some (.ref 41), some (.int x1), some (.int x2), none] [] h (qI P) := by
  refine pt_1 (fun n d => r_iloadn gx11_0 rfl) ?_
  refine pt_d (pt_iconst gx11_1 (fun v1 h1 => ?_))
  refine pt_d (pt_icmp_eq gx11_2 z2 h1 (fun e2 => ?_) (fun e2 => ?_))
  · have H := H.1 e2
    refine pt_d (pt_iconst gx11_20 (fun v3 h3 => ?_))
    refine pt_d (pt_1 (fun n d => r_goto gx11_21) ?_)
    refine pt_d (pt_1 (fun n d => r_istoren (L' := [some (.ref 41), some (.int x1), some (.int x2), some (.int v3)]) gx11_25 rfl rfl) ?_)
    refine pt_d (pt_1 (fun n d => r_iloadn gx11_26 rfl) ?_)
    refine pt_d (pt_if_eq gx11_27 h3 (fun e4 => absurd e4 (by decide)) (fun e4 => ?_))
    refine pt_d (pt_1 (fun n d => r_iloadn gx11_30 rfl) ?_)
    refine pt_d (pt_i2l gx11_31 z1 (fun v5 h5 => ?_))
    refine pt_d (pt_1 (fun n d => r_iloadn gx11_32 rfl) ?_)
    refine pt_d (pt_i2l gx11_33 z1 (fun v6 h6 => ?_))
    refine pt_d (pt_ldc2_w (c := 3) gx11_34 rfl (fun v7 h7 => ?_))
    refine pt_d (pt_lmul gx11_37 h6 h7 (fun v8 h8 => ?_))
    refine pt_d (pt_ldc2_w (c := 10) gx11_38 rfl (fun v9 h9 => ?_))
    refine pt_d (pt_ldiv gx11_41 h8 h9 (fun v10 h10 => ?_))
    refine pt_d (pt_ladd gx11_42 h5 h10 (fun v11 h11 => ?_))
    refine pt_d (pt_stat (as := [.long v11]) (r := []) gx11_43 rfl (show zmt[9]? = some zM9 from rfl) rfl rfl rfl rfl (c_9 S h11) (kqP (fun v12 h12 => ?_)))
    show Pt _ _ _ 46 _ [.int v12] _ _
    refine pt_d (pt_1 (fun n d => r_goto gx11_46) ?_)
    exact pt_d (pt_iret gx11_50 ⟨_, rfl, by rw [h12]; exact H⟩)
  · have H := H.2 e2
    refine pt_d (pt_1 (fun n d => r_aloadn gx11_5 rfl) ?_)
    refine pt_d (pt_getR gx11_6 S tr_41_2 ?_)
    refine pt_d (pt_1 (fun n d => r_iloadn gx11_9 rfl) ?_)
    refine pt_d (pt_1 (fun n d => r_aloadn gx11_10 rfl) ?_)
    refine pt_d (pt_getR gx11_11 S tr_41_4 ?_)
    obtain ⟨pr15, H⟩ := H
    refine pt_d (pt_virt (as := [.int x2, .ref 43]) (r := []) gx11_14 rfl (show zmt[121]? = some zM121 from rfl) rfl rfl rfl rfl (c_121 S z2 pr15) (kqI (fun v15 y15 h_15 h15 P15 => ?_)))
    have S15 := P15.1
    have H := H y15 h_15 P15
    show Pt _ _ _ 17 _ [.int v15] _ _
    refine pt_d (pt_if_eq gx11_17 h15 (fun e16 => ?_) (fun e16 => ?_))
    · have H := H.1 e16
      refine pt_d (pt_iconst gx11_24 (fun v17 h17 => ?_))
      refine pt_d (pt_1 (fun n d => r_istoren (L' := [some (.ref 41), some (.int x1), some (.int x2), some (.int v17)]) gx11_25 rfl rfl) ?_)
      refine pt_d (pt_1 (fun n d => r_iloadn gx11_26 rfl) ?_)
      refine pt_d (pt_if_eq gx11_27 h17 (fun e18 => ?_) (fun e18 => absurd e18 (by decide)))
      refine pt_d (pt_1 (fun n d => r_iloadn gx11_49 rfl) ?_)
      exact pt_d (pt_iret gx11_50 ⟨_, rfl, by rw [z1]; exact H⟩)
    · have H := H.2 e16
      refine pt_d (pt_iconst gx11_20 (fun v19 h19 => ?_))
      refine pt_d (pt_1 (fun n d => r_goto gx11_21) ?_)
      refine pt_d (pt_1 (fun n d => r_istoren (L' := [some (.ref 41), some (.int x1), some (.int x2), some (.int v19)]) gx11_25 rfl rfl) ?_)
      refine pt_d (pt_1 (fun n d => r_iloadn gx11_26 rfl) ?_)
      refine pt_d (pt_if_eq gx11_27 h19 (fun e20 => absurd e20 (by decide)) (fun e20 => ?_))
      refine pt_d (pt_1 (fun n d => r_iloadn gx11_30 rfl) ?_)
      refine pt_d (pt_i2l gx11_31 z1 (fun v21 h21 => ?_))
      refine pt_d (pt_1 (fun n d => r_iloadn gx11_32 rfl) ?_)
      refine pt_d (pt_i2l gx11_33 z1 (fun v22 h22 => ?_))
      refine pt_d (pt_ldc2_w (c := 3) gx11_34 rfl (fun v23 h23 => ?_))
      refine pt_d (pt_lmul gx11_37 h22 h23 (fun v24 h24 => ?_))
      refine pt_d (pt_ldc2_w (c := 10) gx11_38 rfl (fun v25 h25 => ?_))
      refine pt_d (pt_ldiv gx11_41 h24 h25 (fun v26 h26 => ?_))
      refine pt_d (pt_ladd gx11_42 h21 h26 (fun v27 h27 => ?_))
      refine pt_d (pt_stat (as := [.long v27]) (r := []) gx11_43 rfl (show zmt[9]? = some zM9 from rfl) rfl rfl rfl rfl (c_9 S15 h27) (kqP (fun v28 h28 => ?_)))
      show Pt _ _ _ 46 _ [.int v28] _ _
      refine pt_d (pt_1 (fun n d => r_goto gx11_46) ?_)
      exact pt_d (pt_iret gx11_50 ⟨_, rfl, by rw [h28]; exact H⟩)
theorem d12_0 {n : Nat} {X : aX} {h : aH} {P : Int → aH → Prop} {x1 x2 : Int32} {a1 a2 : Int} (S : wS h) (z1 : x1.toInt = a1) (z2 : x2.toInt = a2) (H : ((a2 ≠ (-1) → ∀ h_5 : aH, wS h_5 → vw h_5 = up (vw h) 43 10 a1 → ((tOK (vw h_5) a2) ∧ ∀ (y8 : Int) (h_8 : aH), (wS h_8 ∧ R121 (vw h_5) a2 y8 (vw h_8)) → ∀ h_12 : aH, wS h_12 → vw h_12 = up (vw h_8) 43 10 0 → P (max 0 (min a1 y8)) h_12)) ∧ (a2 = (-1) → P a1 h))) : Pt (n + 1) X zM12 0 [some (.ref 41), some (.int x1), some (.int x2), none] [] h (qI P) := by
  refine pt_1 (fun n d => r_iloadn gx12_0 rfl) ?_
  refine pt_d (pt_iconst gx12_1 (fun v1 h1 => ?_))
  refine pt_d (pt_icmp_ne gx12_2 z2 h1 (fun e2 => ?_) (fun e2 => ?_))
  · have H := H.1 e2
    refine pt_d (pt_1 (fun n d => r_aloadn gx12_7 rfl) ?_)
    refine pt_d (pt_getR gx12_8 S tr_41_4 ?_)
    refine pt_d (pt_bipush gx12_11 (fun v4 h4 => ?_))
    refine pt_d (pt_1 (fun n d => r_iloadn gx12_13 rfl) ?_)
    refine pt_d (pt_iast (N' := 13) gx12_14 S tl_43 h4 z1 (fun h_5 S5 p5 q5 e5 => ?_))
    refine pt_d (pt_1 (fun n d => r_aloadn gx12_15 rfl) ?_)
    refine pt_d (pt_getR gx12_16 S5 tr_41_2 ?_)
    refine pt_d (pt_1 (fun n d => r_iloadn gx12_19 rfl) ?_)
    refine pt_d (pt_1 (fun n d => r_aloadn gx12_20 rfl) ?_)
    refine pt_d (pt_getR gx12_21 S5 tr_41_4 ?_)
    have H := H h_5 S5 (by rw [e5])
    obtain ⟨pr8, H⟩ := H
    refine pt_d (pt_virt (as := [.int x2, .ref 43]) (r := []) gx12_24 rfl (show zmt[121]? = some zM121 from rfl) rfl rfl rfl rfl (c_121 S5 z2 pr8) (kqI (fun v8 y8 h_8 h8 P8 => ?_)))
    have S8 := P8.1
    have H := H y8 h_8 P8
    show Pt _ _ _ 27 _ [.int v8] _ _
    refine pt_d (pt_1 (fun n d => r_istoren (L' := [some (.ref 41), some (.int x1), some (.int x2), some (.int v8)]) gx12_27 rfl rfl) ?_)
    refine pt_d (pt_1 (fun n d => r_aloadn gx12_28 rfl) ?_)
    refine pt_d (pt_getR gx12_29 S8 tr_41_4 ?_)
    refine pt_d (pt_bipush gx12_32 (fun v10 h10 => ?_))
    refine pt_d (pt_iconst gx12_34 (fun v11 h11 => ?_))
    refine pt_d (pt_iast (N' := 13) gx12_35 S8 tl_43 h10 h11 (fun h_12 S12 p12 q12 e12 => ?_))
    refine pt_d (pt_iconst gx12_36 (fun v13 h13 => ?_))
    refine pt_d (pt_1 (fun n d => r_iloadn gx12_37 rfl) ?_)
    refine pt_d (pt_1 (fun n d => r_iloadn gx12_38 rfl) ?_)
    refine pt_d (pt_min gx12_39 rfl z1 h8 (fun v14 h14 => ?_))
    refine pt_d (pt_max gx12_42 rfl h13 h14 (fun v15 h15 => ?_))
    have H := H h_12 S12 (by rw [e12])
    exact pt_d (pt_iret gx12_45 ⟨_, rfl, by rw [h15]; exact H⟩)
  · have H := H.2 e2
    refine pt_d (pt_1 (fun n d => r_iloadn gx12_5 rfl) ?_)
    exact pt_d (pt_iret gx12_6 ⟨_, rfl, by rw [z1]; exact H⟩)
theorem d13_0 {n : Nat} {X : aX} {h : aH} {P : Int → aH → Prop} {x1 x2 : Int32} {a1 a2 : Int} (S : wS h) (z1 : x1.toInt = a1) (z2 : x2.toInt = a2) (H : ((a2 ≠ (-1) → ∀ h_2 : aH, wS h_2 → vw h_2 = up (vw h) 41 7 (-1) → ((tOK (vw h_2) a2) ∧ ∀ (y9 : Int) (h_9 : aH), (wS h_9 ∧ R121 (vw h_2) a2 y9 (vw h_9)) → ((vw h_9 43 11 ≠ 1 → ∀ h_14 : aH, wS h_14 → vw h_14 = up (vw h_9) 41 7 (vw h_9 33 14) → P (w32 (a1 - (w32 (jDiv (w64 ((w64 (a1 * (max 0 (min 100 y9)))) + 99)) 100)))) h_14) ∧ (vw h_9 43 11 = 1 → ∀ h_14 : aH, wS h_14 → vw h_14 = up (vw h_9) 41 7 (vw h_9 33 14) → P a1 h_14)))) ∧ (a2 = (-1) → ∀ h_2 : aH, wS h_2 → vw h_2 = up (vw h) 41 7 (-1) → P a1 h_2))) : Pt (n + 1) X zM13 0 [some (.ref 41), some (.int x1), some (.int x2), none] [] h (qI P) := by
  refine pt_1 (fun n d => r_aloadn gx13_0 rfl) ?_
  refine pt_d (pt_iconst gx13_1 (fun v1 h1 => ?_))
  refine pt_d (pt_putI (B := 7) gx13_2 S h1 (fun h_2 S2 e2 => ?_))
  refine pt_d (pt_1 (fun n d => r_iloadn gx13_5 rfl) ?_)
  refine pt_d (pt_iconst gx13_6 (fun v3 h3 => ?_))
  refine pt_d (pt_icmp_ne gx13_7 z2 h3 (fun e4 => ?_) (fun e4 => ?_))
  · have H := H.1 e4
    refine pt_d (pt_iconst gx13_12 (fun v5 h5 => ?_))
    refine pt_d (pt_bipush gx13_13 (fun v6 h6 => ?_))
    refine pt_d (pt_1 (fun n d => r_aloadn gx13_15 rfl) ?_)
    refine pt_d (pt_getR gx13_16 S2 tr_41_2 ?_)
    refine pt_d (pt_1 (fun n d => r_iloadn gx13_19 rfl) ?_)
    refine pt_d (pt_1 (fun n d => r_aloadn gx13_20 rfl) ?_)
    refine pt_d (pt_getR gx13_21 S2 tr_41_4 ?_)
    have H := H h_2 S2 (by rw [e2])
    obtain ⟨pr9, H⟩ := H
    refine pt_d (pt_virt (as := [.int x2, .ref 43]) (r := [.int v6, .int v5]) gx13_24 rfl (show zmt[121]? = some zM121 from rfl) rfl rfl rfl rfl (c_121 S2 z2 pr9) (kqI (fun v9 y9 h_9 h9 P9 => ?_)))
    have S9 := P9.1
    have H := H y9 h_9 P9
    show Pt _ _ _ 27 _ [.int v9, .int v6, .int v5] _ _
    refine pt_d (pt_min gx13_27 rfl h6 h9 (fun v10 h10 => ?_))
    refine pt_d (pt_max gx13_30 rfl h5 h10 (fun v11 h11 => ?_))
    refine pt_d (pt_1 (fun n d => r_istoren (L' := [some (.ref 41), some (.int x1), some (.int x2), some (.int v11)]) gx13_33 rfl rfl) ?_)
    refine pt_d (pt_1 (fun n d => r_aloadn gx13_34 rfl) ?_)
    refine pt_d (pt_1 (fun n d => r_aloadn gx13_35 rfl) ?_)
    refine pt_d (pt_getR gx13_36 S9 tr_41_2 ?_)
    refine pt_d (pt_getI (B := 14) gx13_39 S9 (fun v13 h13 => ?_))
    refine pt_d (pt_putI (B := 7) gx13_42 S9 h13 (fun h_14 S14 e14 => ?_))
    refine pt_d (pt_1 (fun n d => r_aloadn gx13_45 rfl) ?_)
    refine pt_d (pt_getR gx13_46 S14 tr_41_4 ?_)
    refine pt_d (pt_bipush gx13_49 (fun v16 h16 => ?_))
    refine pt_d (pt_iald (N' := 13) gx13_51 S14 tl_43 h16 (fun v17 p17 q17 h17 => ?_))
    have h17 : v17.toInt = vw h_9 43 11 := by rw [h17, e14, up_c (by decide)]
    refine pt_d (pt_iconst gx13_52 (fun v18 h18 => ?_))
    refine pt_d (pt_icmp_ne gx13_53 h17 h18 (fun e19 => ?_) (fun e19 => ?_))
    · have H := H.1 e19
      refine pt_d (pt_1 (fun n d => r_iloadn gx13_58 rfl) ?_)
      refine pt_d (pt_1 (fun n d => r_iloadn gx13_59 rfl) ?_)
      refine pt_d (pt_i2l gx13_60 z1 (fun v20 h20 => ?_))
      refine pt_d (pt_1 (fun n d => r_iloadn gx13_61 rfl) ?_)
      refine pt_d (pt_i2l gx13_62 h11 (fun v21 h21 => ?_))
      refine pt_d (pt_lmul gx13_63 h20 h21 (fun v22 h22 => ?_))
      refine pt_d (pt_ldc2_w (c := 99) gx13_64 rfl (fun v23 h23 => ?_))
      refine pt_d (pt_ladd gx13_67 h22 h23 (fun v24 h24 => ?_))
      refine pt_d (pt_ldc2_w (c := 100) gx13_68 rfl (fun v25 h25 => ?_))
      refine pt_d (pt_ldiv gx13_71 h24 h25 (fun v26 h26 => ?_))
      refine pt_d (pt_l2i gx13_72 h26 (fun v27 h27 => ?_))
      refine pt_d (pt_isub gx13_73 z1 h27 (fun v28 h28 => ?_))
      have H := H h_14 S14 (by rw [e14])
      exact pt_d (pt_iret gx13_74 ⟨_, rfl, by rw [h28]; exact H⟩)
    · have H := H.2 e19
      refine pt_d (pt_1 (fun n d => r_iloadn gx13_56 rfl) ?_)
      have H := H h_14 S14 (by rw [e14])
      exact pt_d (pt_iret gx13_57 ⟨_, rfl, by rw [z1]; exact H⟩)
  · have H := H.2 e4
    refine pt_d (pt_1 (fun n d => r_iloadn gx13_10 rfl) ?_)
    have H := H h_2 S2 (by rw [e2])
    exact pt_d (pt_iret gx13_11 ⟨_, rfl, by rw [z1]; exact H⟩)
def f9 (V V' : vS) : Prop := ∀ c j, (c ≠ 33 ∨ (j < 9 ∨ 14 < j)) → V' c j = V c j
theorem oT_k {V W : vS} (e35 : ∀ j, W 35 j = V 35 j) (e36 : ∀ j, W 36 j = V 36 j) (t : Int) : oT W t = oT V t := by
  funext p
  unfold oT
  rw [e36, e35]
theorem tOK_k {V W : vS} (e35 : ∀ j, W 35 j = V 35 j) (e36 : ∀ j, W 36 j = V 36 j) {t : Int} (k : tOK V t) : tOK W t := by
  obtain ⟨⟨a, b, c⟩, ls, d, e⟩ := k
  exact ⟨⟨a, by rw [e36]; exact b, fun j j0 j1 => by rw [e35]; exact c j j0 j1⟩, ls, by rw [oT_k e35 e36]; exact d, e⟩
def pTx (V : vS) (t : Int) : Prop := t ≠ -1 → tOK V t
def grn (s v : Int) : Int := if v = 0 then s else hel (w64 (s + jDiv (w64 (s * 3)) 10))
noncomputable def tv (V : vS) (N : Int → Int) (t d : Int) : Int := if t = -1 then d else (tSay (oT V t) N).1
def R11 (V : vS) (s t y : Int) (V' : vS) : Prop := y = grn s (tv V (fun j => V 43 j) t 1) ∧ f9 V V'
theorem c_11 {n : Nat} {X : aX} {h : aH} {x1 x2 : Int32} {a1 a2 : Int} (S : wS h) (z1 : x1.toInt = a1) (z2 : x2.toInt = a2) (hp : pTx (vw h) a2) : Pt n X zM11 0 [some (.ref 41), some (.int x1), some (.int x2), none] [] h (qI (fun y h' => wS h' ∧ R11 (vw h) a1 a2 y (vw h'))) := by
  refine pt_d (d11_0 S z1 z2 ⟨fun e => ⟨S, ?_, fun _ _ _ => rfl⟩, fun ne => ⟨hp ne, fun y15 h15 k15 => ⟨fun e0 => ⟨k15.1, ?_, k15.2.2.2⟩, fun n0 => ⟨k15.1, ?_, k15.2.2.2⟩⟩⟩⟩)
  · unfold tv grn
    rw [if_pos e, if_neg (by decide)]
  · unfold tv grn
    rw [if_neg ne, ← k15.2.1, if_pos e0]
  · unfold tv grn
    rw [if_neg ne, ← k15.2.1, if_neg n0]
def Nm (N : Int → Int) (s : Int) : Int → Int := fun j => if j = 10 then s else N j
noncomputable def spF (V : vS) (N : Int → Int) (s t : Int) : Int := if t = -1 then s else max 0 (min s (tSay (oT V t) (Nm N s)).1)
def R12 (V : vS) (s t y : Int) (V' : vS) : Prop := y = spF V (fun j => V 43 j) s t ∧ (V' 43 10 = V 43 10 ∨ V' 43 10 = 0) ∧ ∀ c j, (c ≠ 33 ∨ (j < 9 ∨ 14 < j)) → (c ≠ 43 ∨ j ≠ 10) → V' c j = V c j
theorem c_12 {n : Nat} {X : aX} {h : aH} {x1 x2 : Int32} {a1 a2 : Int} (S : wS h) (z1 : x1.toInt = a1) (z2 : x2.toInt = a2) (hp : pTx (vw h) a2) : Pt n X zM12 0 [some (.ref 41), some (.int x1), some (.int x2), none] [] h (qI (fun y h' => wS h' ∧ R12 (vw h) a1 a2 y (vw h'))) := by
  refine pt_d (d12_0 S z1 z2 ⟨fun ne h5 S5 e5 => ⟨tOK_k (fun j => by rw [e5, up_c (by decide)]) (fun j => by rw [e5, up_c (by decide)]) (hp ne), fun y8 h8 k8 h12 S12 e12 => ⟨S12, ?_, Or.inr (by rw [e12, up_s]), fun c j u v => ?_⟩⟩, fun e => ⟨S, ?_, Or.inl rfl, fun _ _ _ _ => rfl⟩⟩)
  · unfold spF
    rw [if_neg ne, k8.2.1, oT_k (V := vw h) (fun j => by rw [e5, up_c (by decide)]) (fun j => by rw [e5, up_c (by decide)])]
    congr 4
    funext j
    rw [e5, up_p]
    rfl
  · have w : ∀ (V : vS) (x : Int), up V 43 10 x c j = V c j := fun V x => by
      rcases v with v | v
      · exact up_c v
      · exact up_j v
    rw [e12, w, k8.2.2.2 c j u, e5, w]
  · unfold spF
    rw [if_pos e]
def fnd (s v mj : Int) : Int := if mj = 1 then s else w32 (s - w32 (jDiv (w64 (w64 (s * (max 0 (min 100 v))) + 99)) 100))
noncomputable def fin (V : vS) (N : Int → Int) (s t : Int) : Int := if t = -1 then s else fnd s (tSay (oT V t) N).1 (N 11)
noncomputable def lin (V : vS) (N : Int → Int) (t : Int) : Int := if t = -1 then -1 else (tSay (oT V t) N).2
def R13 (V : vS) (s t y : Int) (V' : vS) : Prop := y = fin V (fun j => V 43 j) s t ∧ V' 41 7 = lin V (fun j => V 43 j) t ∧ ∀ c j, (c ≠ 33 ∨ (j < 9 ∨ 14 < j)) → (c ≠ 41 ∨ j ≠ 7) → V' c j = V c j
theorem c_13 {n : Nat} {X : aX} {h : aH} {x1 x2 : Int32} {a1 a2 : Int} (S : wS h) (z1 : x1.toInt = a1) (z2 : x2.toInt = a2) (hp : pTx (vw h) a2) : Pt n X zM13 0 [some (.ref 41), some (.int x1), some (.int x2), none] [] h (qI (fun y h' => wS h' ∧ R13 (vw h) a1 a2 y (vw h'))) := by
  have w : ∀ (V : vS) (x : Int) (c : Nat) (j : Int), (c ≠ 41 ∨ j ≠ 7) → up V 41 7 x c j = V c j := fun V x c j v => by
    rcases v with v | v
    · exact up_c v
    · exact up_j v
  refine pt_d (d13_0 S z1 z2 ⟨fun ne h2 S2 e2 => ⟨tOK_k (fun j => by rw [e2, up_c (by decide)]) (fun j => by rw [e2, up_c (by decide)]) (hp ne), fun y9 h9 k9 => ?_⟩, fun e h2 S2 e2 => ⟨S2, ?_, ?_, fun c j _ v => by rw [e2, w _ _ c j v]⟩⟩)
  · have eN : (fun j => vw h2 43 j) = fun j => vw h 43 j := funext fun j => by rw [e2, up_c (by decide)]
    have eo := oT_k (V := vw h) (W := vw h2) (fun j => by rw [e2, up_c (by decide)]) (fun j => by rw [e2, up_c (by decide)]) a2
    obtain ⟨S9, k1, k2, k3⟩ := k9
    rw [eo, eN] at k1 k2
    have e11 : vw h9 43 11 = vw h 43 11 := by rw [k3 43 11 (Or.inl (by decide)), e2, up_c (by decide)]
    rw [e11]
    refine ⟨fun n1 h14 S14 e14 => ⟨S14, ?_, ?_, fun c j u v => ?_⟩, fun e1 h14 S14 e14 => ⟨S14, ?_, ?_, fun c j u v => ?_⟩⟩
    · unfold fin fnd
      rw [if_neg ne, if_neg n1, ← k1]
    · unfold lin
      rw [if_neg ne, e14, up_s]
      exact k2
    · rw [e14, w _ _ c j v, k3 c j u, e2, w _ _ c j v]
    · unfold fin fnd
      rw [if_neg ne, if_pos e1]
    · unfold lin
      rw [if_neg ne, e14, up_s]
      exact k2
    · rw [e14, w _ _ c j v, k3 c j u, e2, w _ _ c j v]
  · unfold fin
    rw [if_pos e]
  · unfold lin
    rw [if_pos e, e2, up_s]
end

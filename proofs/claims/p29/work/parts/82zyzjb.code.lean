-- ===== the reference keeps the texts laid out =====
theorem y264_0 {n : Nat} {X : aX} {h : aH} {P : Int → aH → Prop} {x1 x2 : Int32} {a1 a2 : Int} (S : wS h) (z1 : x1.toInt = a1) (z2 : x2.toInt = a2) (H : ((¬ (isU a1) → P (-1) h) ∧ ((isU a1) → (((0 ≤ a2 ∧ a2 ≤ 9) → ((vw h 72 55 ≠ 16 → (0 ≤ vw h 72 55 → vw h 72 55 < 17 → ∀ h_22 : aH, wS h_22 → vw h_22 = up (up (up (up (up (up (vw h) 72 67 (vw h 72 55)) 119 (vw h 72 55) 0) 72 68 0) 72 64 0) 72 65 (-1)) 72 66 0 → ((lpre (vw h_22)) ∧ ∀ (h_23 : aH), (wS h_23 ∧ mRes 10 (vw h_22) (vw h_23) ∧ kLine (vw h_22) (vw h_23)) → Pt n X zM264 70 [some (.ref 72), some (.int x1), some (.int x2)] [] h_23 (qI P)))) ∧ (vw h 72 55 = 16 → P (-3) h))) ∧ (¬ (0 ≤ a2 ∧ a2 ≤ 9) → P (-1) h))))) : Pt (n + 1) X zM264 0 [some (.ref 72), some (.int x1), some (.int x2)] [] h (qI P) := by
  refine pt_1 (fun n d => r_iloadn gx264_0 rfl) ?_
  refine pt_d (pt_stat (as := [.int x1]) (r := []) gx264_1 rfl (show zmt[263]? = some zM263 from rfl) rfl rfl rfl rfl (c_263 S z1) (kqP (fun v1 h1 => ?_)))
  show Pt _ _ _ 4 _ [.int v1] _ _
  refine pt_d (pt_ifB_eq gx264_4 h1 (fun e2 => ?_) (fun e2 => ?_))
  · have H := H.1 e2
    refine pt_d (pt_iconst gx264_14 (fun v3 h3 => ?_))
    exact pt_d (pt_iret gx264_15 ⟨_, rfl, by rw [h3]; exact H⟩)
  · have H := H.2 e2
    refine pt_d (pt_1 (fun n d => r_iloadn gx264_7 rfl) ?_)
    refine pt_d (pt_stat (as := [.int x2]) (r := []) gx264_8 rfl (show zmt[198]? = some zM198 from rfl) rfl rfl rfl rfl (c_198 S z2) (kqP (fun v4 h4 => ?_)))
    show Pt _ _ _ 11 _ [.int v4] _ _
    refine pt_d (pt_ifB_ne gx264_11 h4 (fun e5 => ?_) (fun e5 => ?_))
    · have H := H.1 e5
      refine pt_d (pt_1 (fun n d => r_aloadn gx264_16 rfl) ?_)
      refine pt_d (pt_getI (B := 55) gx264_17 S (fun v6 h6 => ?_))
      refine pt_d (pt_bipush gx264_20 (fun v7 h7 => ?_))
      refine pt_d (pt_icmp_ne gx264_22 h6 h7 (fun e8 => ?_) (fun e8 => ?_))
      · have H := H.1 e8
        refine pt_d (pt_1 (fun n d => r_aloadn gx264_28 rfl) ?_)
        refine pt_d (pt_1 (fun n d => r_aloadn gx264_29 rfl) ?_)
        refine pt_d (pt_getI (B := 55) gx264_30 S (fun v9 h9 => ?_))
        refine pt_d (pt_putI (B := 67) gx264_33 S h9 (fun h_10 S10 e10 => ?_))
        refine pt_d (pt_1 (fun n d => r_aloadn gx264_36 rfl) ?_)
        refine pt_d (pt_getR gx264_37 S10 tr_72_59 ?_)
        refine pt_d (pt_1 (fun n d => r_aloadn gx264_40 rfl) ?_)
        refine pt_d (pt_getI (B := 67) gx264_41 S10 (fun v12 h12 => ?_))
        have h12 : v12.toInt = vw h 72 55 := by rw [h12, e10, up_s]
        refine pt_d (pt_iconst gx264_44 (fun v13 h13 => ?_))
        refine pt_d (pt_iast (N' := 17) gx264_45 S10 tl_119 h12 h13 (fun h_14 S14 p14 q14 e14 => ?_))
        have H := H p14 q14
        refine pt_d (pt_1 (fun n d => r_aloadn gx264_46 rfl) ?_)
        refine pt_d (pt_iconst gx264_47 (fun v15 h15 => ?_))
        refine pt_d (pt_putI (B := 68) gx264_48 S14 h15 (fun h_16 S16 e16 => ?_))
        refine pt_d (pt_1 (fun n d => r_aloadn gx264_51 rfl) ?_)
        refine pt_d (pt_iconst gx264_52 (fun v17 h17 => ?_))
        refine pt_d (pt_putI (B := 64) gx264_53 S16 h17 (fun h_18 S18 e18 => ?_))
        refine pt_d (pt_1 (fun n d => r_aloadn gx264_56 rfl) ?_)
        refine pt_d (pt_iconst gx264_57 (fun v19 h19 => ?_))
        refine pt_d (pt_putI (B := 65) gx264_58 S18 h19 (fun h_20 S20 e20 => ?_))
        refine pt_d (pt_1 (fun n d => r_aloadn gx264_61 rfl) ?_)
        refine pt_d (pt_iconst gx264_62 (fun v21 h21 => ?_))
        refine pt_d (pt_putI (B := 66) gx264_63 S20 h21 (fun h_22 S22 e22 => ?_))
        refine pt_d (pt_1 (fun n d => r_aloadn gx264_66 rfl) ?_)
        have H := H h_22 S22 (by rw [e22, e20, e18, e16, e14, e10])
        obtain ⟨pr23, H⟩ := H
        refine pt_d (pt_virt (as := []) (r := []) gx264_67 rfl (show zmt[262]? = some zM262 from rfl) rfl rfl rfl rfl (c_262v S22 pr23) (kqN (fun h_23 P23 => ?_)))
        have S23 := P23.1
        have H := H h_23 P23
        show Pt _ _ _ 70 _ [] _ _
        exact H
      · have H := H.2 e8
        refine pt_d (pt_bipush gx264_25 (fun v24 h24 => ?_))
        exact pt_d (pt_iret gx264_27 ⟨_, rfl, by rw [h24]; exact H⟩)
    · have H := H.2 e5
      refine pt_d (pt_iconst gx264_14 (fun v25 h25 => ?_))
      exact pt_d (pt_iret gx264_15 ⟨_, rfl, by rw [h25]; exact H⟩)
theorem y264_70 {n : Nat} {X : aX} {h : aH} {P : Int → aH → Prop} {x1 x2 : Int32} {a1 a2 : Int} (S : wS h) (z1 : x1.toInt = a1) (z2 : x2.toInt = a2) (H : ((0 ≤ vw h 72 65 → Pt n X zM264 103 [some (.ref 72), some (.int x1), some (.int x2)] [] h (qI P)) ∧ (vw h 72 65 < 0 → ((mL (vw h) ≠ 59 → Pt n X zM264 103 [some (.ref 72), some (.int x1), some (.int x2)] [] h (qI P)) ∧ (mL (vw h) = 59 → ∀ h_9 : aH, wS h_9 → vw h_9 = up (vw h) 72 64 (w32 ((vw h 72 64) + 1)) → ((lpre (vw h_9)) ∧ ∀ (h_10 : aH), (wS h_10 ∧ mRes 10 (vw h_9) (vw h_10) ∧ kLine (vw h_9) (vw h_10)) → Pt n X zM264 70 [some (.ref 72), some (.int x1), some (.int x2)] [] h_10 (qI P))))))) : Pt (n + 1) X zM264 70 [some (.ref 72), some (.int x1), some (.int x2)] [] h (qI P) := by
  refine pt_1 (fun n d => r_aloadn gx264_70 rfl) ?_
  refine pt_d (pt_getI (B := 65) gx264_71 S (fun v1 h1 => ?_))
  refine pt_d (pt_if_ge gx264_74 h1 (fun e2 => ?_) (fun e2 => ?_))
  · have H := H.1 e2
    exact H
  · have H := H.2 e2
    refine pt_d (pt_1 (fun n d => r_aloadn gx264_77 rfl) ?_)
    refine pt_d (pt_virt (as := []) (r := []) gx264_78 rfl (show zmt[251]? = some zM251 from rfl) rfl rfl rfl rfl (c_251 S) (kqP (fun v3 h3 => ?_)))
    show Pt _ _ _ 81 _ [.int v3] _ _
    refine pt_d (pt_bipush gx264_81 (fun v4 h4 => ?_))
    refine pt_d (pt_icmp_ne gx264_83 h3 h4 (fun e5 => ?_) (fun e5 => ?_))
    · have H := H.1 e5
      exact H
    · have H := H.2 e5
      refine pt_d (pt_1 (fun n d => r_aloadn gx264_86 rfl) ?_)
      refine pt_d (pt_1 (fun n d => r_dup gx264_87 rfl) ?_)
      refine pt_d (pt_getI (B := 64) gx264_88 S (fun v6 h6 => ?_))
      refine pt_d (pt_iconst gx264_91 (fun v7 h7 => ?_))
      refine pt_d (pt_iadd gx264_92 h6 h7 (fun v8 h8 => ?_))
      refine pt_d (pt_putI (B := 64) gx264_93 S h8 (fun h_9 S9 e9 => ?_))
      refine pt_d (pt_1 (fun n d => r_aloadn gx264_96 rfl) ?_)
      have H := H h_9 S9 (by rw [e9])
      obtain ⟨pr10, H⟩ := H
      refine pt_d (pt_virt (as := []) (r := []) gx264_97 rfl (show zmt[262]? = some zM262 from rfl) rfl rfl rfl rfl (c_262v S9 pr10) (kqN (fun h_10 P10 => ?_)))
      have S10 := P10.1
      have H := H h_10 P10
      show Pt _ _ _ 100 _ [] _ _
      refine pt_d (pt_1 (fun n d => r_goto gx264_100) ?_)
      exact H
def f119 (V V' : vS) : Prop := ∀ (c : Nat) j, 119 ≤ c → c ≤ 123 → V' c j = V c j
theorem m_125v {n : Nat} {X : aX} {h : aH} {x1 x2 : Int32} {w y : Int} (S : wS h) (h1 : x1.toInt = w) (h2 : x2.toInt = y) : Pt n X zM264 125 [some (.ref 72), some (.int x1), some (.int x2)] [] h (qI (fun _ h' => f119 (vw h) (vw h') ∧ (vw h' 72 55 ≠ vw h 72 55 → vw h 72 65 < 0))) := by
  refine pt_d (d264_125 S h1 h2 ⟨fun lt p q g S2 eg => ⟨fun c j a b => ?_, fun _ => lt⟩, fun ge g S2 eg => ⟨fun c j a b => ?_, fun ne => ?_⟩⟩)
  · rw [eg, up_c (by omega), up_c (by omega), up_c (by omega), up_c (by omega), up_c (by omega)]
  · rw [eg, up_c (by omega)]
  · rw [eg, up_j (by decide)] at ne
    exact absurd rfl ne
theorem m_103v {n : Nat} {X : aX} {h : aH} {x1 x2 : Int32} {w y : Int} (S : wS h) (h1 : x1.toInt = w) (h2 : x2.toInt = y) (H : mlp (vw h)) : Pt n X zM264 103 [some (.ref 72), some (.int x1), some (.int x2)] [] h (qI (fun _ h' => f119 (vw h) (vw h') ∧ (vw h' 72 55 ≠ vw h 72 55 → vw h 72 65 < 0))) := by
  have h0 := H.2.2.1
  refine pt_d (d264_103 S h1 h2 ⟨fun ge => m_125v S h1 h2, fun lt => ⟨fun ge => m_125v S h1 h2, fun l2 g k => ?_⟩⟩)
  rcases k.2 with ⟨z, -⟩ | ⟨-, z⟩
  · omega
  · refine pt_q (m_125v k.1 h1 h2) ?_
    rintro v h' ⟨x, ex, p1, p2⟩
    refine ⟨x, ex, fun c j a b => (p1 c j a b).trans (by rw [z, up_c (by omega)]), fun _ => lt⟩
theorem l_264v {X : aX} {w y : Int} : ∀ (n : Nat) (h : aH) (x1 x2 : Int32), wS h → x1.toInt = w → x2.toInt = y → mlp (vw h) → kpre (vw h) → (vw h 72 65 < 0 → vw h 72 66 = 0) → 0 ≤ vw h 119 (vw h 72 67) → (vw h 72 65 < 0 → 2 * vw h 119 (vw h 72 67) ≤ vw h 72 64 + 1) → Pt n X zM264 70 [some (.ref 72), some (.int x1), some (.int x2)] [] h (qI (fun _ h' => (∀ j, j ≠ vw h 72 67 → vw h' 119 j = vw h 119 j) ∧ (∀ j, j < 90 * vw h 72 67 + vw h 119 (vw h 72 67) → vw h' 120 j = vw h 120 j ∧ vw h' 121 j = vw h 121 j) ∧ (∀ j, j < 170 * vw h 72 67 + vw h 72 68 → vw h' 122 j = vw h 122 j ∧ vw h' 123 j = vw h 123 j) ∧ (vw h' 72 55 ≠ vw h 72 55 → vw h 72 65 < 0 ∧ vw h' 119 (vw h 72 67) ≤ 90 ∧ ∃ ls, lnT (mT (vw h)) (vw h 72 64) ls ∧ lAtR (vw h') (vw h 72 67) (vw h 72 68) (vw h 119 (vw h 72 67)) ls))) := by
  intro n
  induction n with
  | zero => exact fun _ _ _ _ _ _ _ _ _ _ _ => pt_z
  | succ n ih =>
    intro h x1 x2 S h1 h2 H K o0 m0 m2
    have h160 := H.2.2.2
    have h64 := H.2.2.1
    have stop : (vw h 72 65 < 0 → mT (vw h) (vw h 72 64) ≠ 59) → Pt n X zM264 103 [some (.ref 72), some (.int x1), some (.int x2)] [] h (qI (fun _ h' => (∀ j, j ≠ vw h 72 67 → vw h' 119 j = vw h 119 j) ∧ (∀ j, j < 90 * vw h 72 67 + vw h 119 (vw h 72 67) → vw h' 120 j = vw h 120 j ∧ vw h' 121 j = vw h 121 j) ∧ (∀ j, j < 170 * vw h 72 67 + vw h 72 68 → vw h' 122 j = vw h 122 j ∧ vw h' 123 j = vw h 123 j) ∧ (vw h' 72 55 ≠ vw h 72 55 → vw h 72 65 < 0 ∧ vw h' 119 (vw h 72 67) ≤ 90 ∧ ∃ ls, lnT (mT (vw h)) (vw h 72 64) ls ∧ lAtR (vw h') (vw h 72 67) (vw h 72 68) (vw h 119 (vw h 72 67)) ls))) := fun no => by
      refine pt_q (m_103v S h1 h2 H) ?_
      rintro v h' ⟨x, ex, p1, p2⟩
      have e119 : ∀ j, vw h' 119 j = vw h 119 j := fun j => p1 119 j (by decide) (by decide)
      refine ⟨x, ex, fun j _ => e119 j, fun j _ => ⟨p1 120 j (by decide) (by decide), p1 121 j (by decide) (by decide)⟩, fun j _ => ⟨p1 122 j (by decide) (by decide), p1 123 j (by decide) (by decide)⟩, fun ne => ?_⟩
      have lt := p2 ne
      have m3 := m2 lt
      exact ⟨lt, by rw [e119]; omega, [], no lt, e119 _⟩
    refine y264_70 S h1 h2 ⟨fun ge => stop (fun z => by omega), fun lt => ⟨fun ne => stop (fun _ => by rw [← mL_T h64.1]; exact ne), fun e59 h65 S65 e65 => ?_⟩⟩
    obtain ⟨k1, k2, k3, k4, k5, k6, k7, k8⟩ := m_here H lt (by decide) e59 e65
    have m3 := m2 lt
    have x65 : ∀ c j, (c = 72 → j ≠ 64) → vw h65 c j = vw h c j := fun c j z => by
      rw [k3]
      by_cases w : c = 72
      · subst w
        exact up_j (z rfl)
      · exact up_c w
    have y65 : ∀ j, j ≠ 64 → vw h65 72 j = vw h 72 j := fun j z => x65 72 j (fun _ => z)
    have z65 : ∀ (c : Nat) j, c ≠ 72 → vw h65 c j = vw h c j := fun c j z => x65 c j (fun e => absurd e z)
    refine ⟨⟨⟨k2, k_up K k3⟩, by rw [k5]; exact o0 lt, by rw [y65 67 (by decide), z65 119 _ (by decide)]; exact m0, by rw [y65 67 (by decide), z65 119 _ (by decide), k4]; exact m3⟩, fun h66 k66 => ?_⟩
    obtain ⟨S66, c66, l66⟩ := k66
    have H6 := mRes_p k2 c66
    obtain ⟨K6, r67, l68, a119, a120, a122, suc⟩ := l66
    rw [y65 67 (by decide)] at r67 a119 a120 a122 suc
    rw [y65 68 (by decide)] at l68 a122 suc
    rw [z65 119 _ (by decide)] at a119 a120 suc
    rw [k4, k6] at suc
    obtain ⟨F1, q1, f1, p1, b1, b2, b3, b4⟩ := c66
    have pb := pr_b k2.2.2.1.1 p1
    rw [k4] at pb
    have n119 : vw h66 119 (vw h 72 67) = vw h 119 (vw h 72 67) + 1 := by rw [a119, if_pos rfl]
    have e55 : vw h66 72 55 = vw h 72 55 := (F1 72 55 (by decide) (by decide) (by decide) (by decide) (by decide) (fun _ => by decide)).trans (y65 55 (by decide))
    refine pt_q (ih h66 x1 x2 S66 h1 h2 H6 K6 (fun z => by rw [b3 (by omega), k5]; exact o0 lt) (by rw [r67, n119]; omega) (fun z => by
      rw [r67, n119, b1]
      have := pb.2.2 (by omega)
      omega)) ?_
    rintro v h' ⟨x, ex, q1', q2', q3', q4'⟩
    rw [r67] at q1' q2' q3' q4'
    rw [n119] at q2' q4'
    refine ⟨x, ex, fun j z => ?_, fun j z => ?_, fun j z => ?_, fun ne => ?_⟩
    · rw [q1' j z, a119, if_neg z]
      exact z65 119 j (by decide)
    · have u := q2' j (by omega)
      have t := a120 j z
      rw [z65 120 j (by decide), z65 121 j (by decide)] at t
      exact ⟨u.1.trans t.1, u.2.trans t.2⟩
    · have u := q3' j (by omega)
      have t := a122 j z
      rw [z65 122 j (by decide), z65 123 j (by decide)] at t
      exact ⟨u.1.trans t.1, u.2.trans t.2⟩
    · obtain ⟨lt6, n90, ls, t1, t2⟩ := q4' (by rw [e55]; exact ne)
      obtain ⟨q, M, L, d, s1, s2, s3, s4, s5⟩ := suc lt6
      rw [mfr_T F1, k6, s1] at t1
      have i1 := q2' (90 * vw h 72 67 + vw h 119 (vw h 72 67)) (by omega)
      have kb := K6.2
      have h6 := H6.2.2
      refine ⟨lt, n90, (M, L) :: ls, ⟨by rw [← mL_T h64.1]; exact e59, q, d, t1⟩, ⟨i1.1.trans s2, i1.2.trans s3, by omega, cAt_k _ _ (fun j u v => q3' j (by rw [s4]; rw [List.length_append] at v; omega)) s5⟩, ?_⟩
      rw [s4] at t2
      exact t2
def R264v (V V' : vS) : Prop := (∀ j, j ≠ V 72 55 → V' 119 j = V 119 j) ∧ (∀ j, j < 90 * V 72 55 → V' 120 j = V 120 j ∧ V' 121 j = V 121 j) ∧ (∀ j, j < 170 * V 72 55 → V' 122 j = V 122 j ∧ V' 123 j = V 123 j) ∧ (V' 72 55 ≠ V 72 55 → V' 119 (V 72 55) ≤ 90 ∧ ∃ ls, Lns (mT V) 0 ls ∧ lAtR V' (V 72 55) 0 0 ls)
theorem c_264v {n : Nat} {X : aX} {h : aH} {x1 x2 : Int32} {a1 a2 : Int} (S : wS h) (z1 : x1.toInt = a1) (z2 : x2.toInt = a2) (hp : (0 ≤ vw h 72 54 ∧ vw h 72 54 ≤ 160) ∧ 0 ≤ vw h 72 55 ∧ vw h 72 55 ≤ 16) : Pt n X zM264 0 [some (.ref 72), some (.int x1), some (.int x2)] [] h (qI (fun y h' => R264 (vw h) a1 a2 y (vw h') ∧ R264v (vw h) (vw h'))) := by
  refine pt_q (pt_and (c_264 S z1 z2 hp) (show Pt n X zM264 0 [some (.ref 72), some (.int x1), some (.int x2)] [] h (qI (fun _ h' => R264v (vw h) (vw h'))) from ?_)) ?_
  · have same : R264v (vw h) (vw h) := ⟨fun _ _ => rfl, fun _ _ => ⟨rfl, rfl⟩, fun _ _ => ⟨rfl, rfl⟩, fun z => absurd rfl z⟩
    refine pt_d (y264_0 S z1 z2 ⟨fun e => same, fun e => ⟨fun e2 => ⟨fun ne _ _ g S2 eg => ?_, fun e3 => same⟩, fun e2 => same⟩⟩)
    have s64 : vw g 72 64 = 0 := by rw [eg, up_j (by decide), up_j (by decide), up_s]
    have s65 : vw g 72 65 = -1 := by rw [eg, up_j (by decide), up_s]
    have s66 : vw g 72 66 = 0 := by rw [eg, up_s]
    have s67 : vw g 72 67 = vw h 72 55 := by rw [eg, up_j (by decide), up_j (by decide), up_j (by decide), up_j (by decide), up_c (by decide), up_s]
    have s68 : vw g 72 68 = 0 := by rw [eg, up_j (by decide), up_j (by decide), up_j (by decide), up_s]
    have F : mfr (vw h) (vw g) := by rw [eg]; exact mfr_u (mfr_u (mfr_u (mfr_u (mfr_a (mfr_u (mfr_r _) (by decide)) (by decide)) (by decide)) (by decide)) (by decide)) (by decide)
    have e54 := mfr_54 F
    have e55 : vw g 72 55 = vw h 72 55 := F 72 55 (by decide) (by decide) (by decide) (by decide) (by decide) (fun _ => by decide)
    have eT := mfr_T F
    have g119 : ∀ j, vw g 119 j = if j = vw h 72 55 then 0 else vw h 119 j := fun j => by rw [eg, up_c (by decide), up_c (by decide), up_c (by decide), up_c (by decide), up_p, up_c (by decide)]
    have gx : ∀ (c : Nat) j, c ≠ 72 → c ≠ 119 → vw g c j = vw h c j := fun c j u v => by rw [eg, up_c u, up_c u, up_c u, up_c u, up_c v, up_c u]
    have H0 : mpre (vw g) := ⟨s65, by rw [s66]; decide, by rw [s64, e54]; exact ⟨Int.le_refl _, hp.1.1⟩, by rw [e54]; exact hp.1.2⟩
    have K0 : kpre (vw g) := ⟨by rw [s67]; omega, by rw [s68]; decide, by rw [s68, s64]; decide⟩
    have m0 : vw g 119 (vw g 72 67) = 0 := by rw [s67, g119, if_pos rfl]
    refine ⟨⟨⟨H0, K0⟩, s66, by rw [m0]; decide, by rw [m0, s64]; decide⟩, fun h23 k23 => ?_⟩
    obtain ⟨S23, c23, l23⟩ := k23
    have H6 := mRes_p H0 c23
    obtain ⟨K6, r67, l68, a119, a120, a122, suc⟩ := l23
    rw [m0, s67] at a119 a120 suc
    rw [s67] at r67 a122
    rw [s68] at l68 a122 suc
    rw [s64, eT] at suc
    obtain ⟨F1, q1, f1, p1, b1, b2, b3, b4⟩ := c23
    have pb := pr_b H0.2.2.1.1 p1
    rw [s64] at pb
    have n119 : vw h23 119 (vw h 72 55) = 1 := by rw [a119, if_pos rfl]; rfl
    have g55 : vw h23 72 55 = vw h 72 55 := (F1 72 55 (by decide) (by decide) (by decide) (by decide) (by decide) (fun _ => by decide)).trans e55
    refine pt_q (l_264v n h23 x1 x2 S23 z1 z2 H6 K6 (fun z => by rw [b3 (by omega)]; exact s66) (by rw [r67, n119]; decide) (fun z => by
      rw [r67, n119, b1]
      have := pb.2.2 (by omega)
      omega)) ?_
    rintro v h' ⟨x, ex, q1', q2', q3', q4'⟩
    rw [r67] at q1' q2' q3' q4'
    rw [n119] at q2' q4'
    refine ⟨x, ex, fun j z => ?_, fun j z => ?_, fun j z => ?_, fun ne => ?_⟩
    · rw [q1' j z, a119, if_neg z, g119, if_neg z]
    · have u := q2' j (by omega)
      have t := a120 j (by omega)
      rw [gx 120 j (by decide) (by decide), gx 121 j (by decide) (by decide)] at t
      exact ⟨u.1.trans t.1, u.2.trans t.2⟩
    · have u := q3' j (by omega)
      have t := a122 j (by omega)
      rw [gx 122 j (by decide) (by decide), gx 123 j (by decide) (by decide)] at t
      exact ⟨u.1.trans t.1, u.2.trans t.2⟩
    · obtain ⟨lt6, n90, ls, t1, t2⟩ := q4' (by rw [g55]; exact ne)
      obtain ⟨q, M, L, d, s1, s2, s3, s4, s5⟩ := suc lt6
      rw [mfr_T F1, eT, s1] at t1
      have i1 := q2' (90 * vw h 72 55 + 0) (by omega)
      have kb := K6.2
      have h6 := H6.2.2
      refine ⟨n90, (M, L) :: ls, ⟨q, d, t1⟩, ⟨i1.1.trans s2, i1.2.trans s3, by omega, cAt_k _ _ (fun j u v => q3' j (by rw [s4]; rw [List.length_append] at v; omega)) s5⟩, ?_⟩
      rw [s4] at t2
      exact t2
  · rintro v h' ⟨⟨x, rfl, p1⟩, ⟨x', ev, p2⟩⟩
    exact ⟨x, rfl, p1, p2⟩


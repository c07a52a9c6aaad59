-- ===== the rate of errors =====
theorem d67_0 {n : Nat} {X : aX} {h : aH} {P : Int → aH → Prop} {x1 x2 : Int32} {a1 a2 : Int} (S : wS h) (z1 : x1.toInt = a1) (z2 : x2.toInt = a2) (H : ((vw h 48 15 ≤ 1000) ∧ ((0 ≤ vw h 48 15 ∧ vw h 48 15 ≤ 8) ∧ ((w64 (a2 * (pwF 100 ((vw h 48 15)).toNat)) ≤ w64 (100 * (gSm (tCh (cWy ((vw h) 48 15)) ((vw h) 48 15) a1) (vw h 48 16) (vw h 48 15) ((vw h) 48 15 + 1).toNat)) → ((0 ≤ vw h 48 15 ∧ vw h 48 15 ≤ 8) ∧ ((w64 (a2 * (pwF 100 ((vw h 48 15)).toNat)) ≤ w64 (100 * (gSm (tCh (cWy ((vw h) 48 15)) ((vw h) 48 15) a1) 0 (vw h 48 16) ((vw h) 48 15 + 1).toNat)) → P 0 h) ∧ (w64 (100 * (gSm (tCh (cWy ((vw h) 48 15)) ((vw h) 48 15) a1) 0 (vw h 48 16) ((vw h) 48 15 + 1).toNat)) < w64 (a2 * (pwF 100 ((vw h 48 15)).toNat)) → P 2 h)))) ∧ (w64 (100 * (gSm (tCh (cWy ((vw h) 48 15)) ((vw h) 48 15) a1) (vw h 48 16) (vw h 48 15) ((vw h) 48 15 + 1).toNat)) < w64 (a2 * (pwF 100 ((vw h 48 15)).toNat)) → P 1 h))))) : Pt (n + 1) X zM67 0 [some (.ref 48), some (.int x1), some (.int x2), none, none] [] h (qI P) := by
  refine pt_1 (fun n d => r_iloadn gx67_0 rfl) ?_
  refine pt_d (pt_i2l gx67_1 z2 (fun v1 h1 => ?_))
  refine pt_d (pt_ldc2_w (c := 100) gx67_2 rfl (fun v2 h2 => ?_))
  refine pt_d (pt_1 (fun n d => r_aloadn gx67_5 rfl) ?_)
  refine pt_d (pt_getI (B := 15) gx67_6 S (fun v3 h3 => ?_))
  obtain ⟨pr4, H⟩ := H
  refine pt_d (pt_stat (as := [.long v2, .int v3]) (r := [.long v1]) gx67_9 rfl (show zmt[69]? = some zM69 from rfl) rfl rfl rfl rfl (c_69 S h2 h3 pr4) (kqPJ (fun v4 h4 => ?_)))
  show Pt _ _ _ 12 _ [.long v4, .long v1] _ _
  refine pt_d (pt_lmul gx67_12 h1 h4 (fun v5 h5 => ?_))
  refine pt_d (pt_1 (fun n d => r_lstoren (L' := [some (.ref 48), some (.int x1), some (.int x2), some (.long v5), none]) gx67_13 rfl rfl) ?_)
  refine pt_d (pt_ldc2_w (c := 100) gx67_14 rfl (fun v6 h6 => ?_))
  refine pt_d (pt_1 (fun n d => r_aloadn gx67_17 rfl) ?_)
  refine pt_d (pt_1 (fun n d => r_aloadn gx67_18 rfl) ?_)
  refine pt_d (pt_getI (B := 16) gx67_19 S (fun v7 h7 => ?_))
  refine pt_d (pt_1 (fun n d => r_aloadn gx67_22 rfl) ?_)
  refine pt_d (pt_getI (B := 15) gx67_23 S (fun v8 h8 => ?_))
  refine pt_d (pt_1 (fun n d => r_iloadn gx67_26 rfl) ?_)
  obtain ⟨pr9, H⟩ := H
  refine pt_d (pt_virt (as := [.int v7, .int v8, .int x1]) (r := [.long v6]) gx67_27 rfl (show zmt[68]? = some zM68 from rfl) rfl rfl rfl rfl (c_68 S h7 h8 z1 pr9) (kqPJ (fun v9 h9 => ?_)))
  show Pt _ _ _ 30 _ [.long v9, .long v6] _ _
  refine pt_d (pt_lmul gx67_30 h6 h9 (fun v10 h10 => ?_))
  refine pt_d (pt_1 (fun n d => r_lloadn gx67_31 rfl) ?_)
  refine pt_d (pt_lcmp_ge gx67_32 gx67_33 h10 h5 (fun e11 => ?_) (fun e11 => ?_))
  · have H := H.1 e11
    refine pt_d (pt_ldc2_w (c := 100) gx67_38 rfl (fun v12 h12 => ?_))
    refine pt_d (pt_1 (fun n d => r_aloadn gx67_41 rfl) ?_)
    refine pt_d (pt_iconst gx67_42 (fun v13 h13 => ?_))
    refine pt_d (pt_1 (fun n d => r_aloadn gx67_43 rfl) ?_)
    refine pt_d (pt_getI (B := 16) gx67_44 S (fun v14 h14 => ?_))
    refine pt_d (pt_1 (fun n d => r_iloadn gx67_47 rfl) ?_)
    obtain ⟨pr15, H⟩ := H
    refine pt_d (pt_virt (as := [.int v13, .int v14, .int x1]) (r := [.long v12]) gx67_48 rfl (show zmt[68]? = some zM68 from rfl) rfl rfl rfl rfl (c_68 S h13 h14 z1 pr15) (kqPJ (fun v15 h15 => ?_)))
    show Pt _ _ _ 51 _ [.long v15, .long v12] _ _
    refine pt_d (pt_lmul gx67_51 h12 h15 (fun v16 h16 => ?_))
    refine pt_d (pt_1 (fun n d => r_lloadn gx67_52 rfl) ?_)
    refine pt_d (pt_lcmp_ge gx67_53 gx67_54 h16 h5 (fun e17 => ?_) (fun e17 => ?_))
    · have H := H.1 e17
      refine pt_d (pt_iconst gx67_61 (fun v18 h18 => ?_))
      exact pt_d (pt_iret gx67_62 ⟨_, rfl, by rw [h18]; exact H⟩)
    · have H := H.2 e17
      refine pt_d (pt_iconst gx67_57 (fun v19 h19 => ?_))
      refine pt_d (pt_1 (fun n d => r_goto gx67_58) ?_)
      exact pt_d (pt_iret gx67_62 ⟨_, rfl, by rw [h19]; exact H⟩)
  · have H := H.2 e11
    refine pt_d (pt_iconst gx67_36 (fun v20 h20 => ?_))
    exact pt_d (pt_iret gx67_37 ⟨_, rfl, by rw [h20]; exact H⟩)
noncomputable def uLk (W : Nat → Int) (n x p w : Int) : Int := if w64 (100 * gSm (tCh W n p) x n (n + 1).toNat) < w64 (w * pwF 100 n.toNat) then 1 else if w64 (100 * gSm (tCh W n p) 0 x (n + 1).toNat) < w64 (w * pwF 100 n.toNat) then 2 else 0
theorem c_67 {n : Nat} {X : aX} {h : aH} {x1 x2 : Int32} {a1 a2 : Int} (S : wS h) (z1 : x1.toInt = a1) (z2 : x2.toInt = a2) (hn : 0 ≤ vw h 48 15 ∧ vw h 48 15 ≤ 8) : Pt n X zM67 0 [some (.ref 48), some (.int x1), some (.int x2), none, none] [] h (qI (fun r h' => h' = h ∧ r = uLk (cWy (vw h 48 15)) (vw h 48 15) (vw h 48 16) a1 a2)) := by
  refine pt_d (d67_0 S z1 z2 ?_)
  have hn' : vw h 48 15 ≤ 1000 := by omega
  refine ⟨hn', hn, fun e => ⟨hn, fun e2 => ⟨rfl, ?_⟩, fun e2 => ⟨rfl, ?_⟩⟩, fun e => ⟨rfl, ?_⟩⟩
  · unfold uLk
    rw [if_neg (by omega), if_neg (by omega)]
  · unfold uLk
    rw [if_neg (by omega), if_pos e2]
  · unfold uLk
    rw [if_pos e]
-- the same numbers, from other ways of reckoning the ways
theorem uLk_e {n x p w : Int} (hn : 0 ≤ n ∧ n ≤ 8) (hx : 0 ≤ x ∧ x ≤ n) : uLk (cWy n) n x p w = if w64 (100 * gSm (tCh (mWy n) n p) x n (n + 1).toNat) < w64 (w * pwF 100 n.toNat) then 1 else if w64 (100 * gSm (tCh (mWy n) n p) 0 x (x + 1).toNat) < w64 (w * pwF 100 n.toNat) then 2 else 0 := by
  obtain ⟨m, rfl⟩ : ∃ m : Nat, n = (m : Int) := ⟨n.toNat, by omega⟩
  have ce : ∀ i, i < ((m : Int) + 1).toNat → tCh (cWy (m : Int)) (m : Int) p i = tCh (mWy (m : Int)) (m : Int) p i := fun i hi => by
    unfold tCh
    rw [ways_e ⟨m, by omega⟩ ⟨i, by omega⟩ (show i ≤ m by omega)]
  have st : gSm (tCh (mWy (m : Int)) (m : Int) p) 0 x ((m : Int) + 1).toNat = gSm (tCh (mWy (m : Int)) (m : Int) p) 0 x (x + 1).toNat := by
    rw [show ((m : Int) + 1).toNat = (x + 1).toNat + (((m : Int) + 1).toNat - (x + 1).toNat) by omega]
    exact gSm_stop (by omega) _
  unfold uLk
  rw [gSm_c _ ce, gSm_c _ ce, st]

-- those controlled, those wrong, the first eight
noncomputable def jX (P E : Int → Prop) : Nat → Int
  | 0 => 0
  | b + 1 => jX P E b + pI ((P (b : Nat) ∧ E (b : Nat)) ∧ nQ P b < 8) 1
theorem jX_s (P E : Int → Prop) (b : Nat) : jX P E (b + 1) = jX P E b + pI ((P (b : Nat) ∧ E (b : Nat)) ∧ nQ P b < 8) 1 := rfl
theorem jX_w {P E : Int → Prop} : ∀ b : Nat, nQ P b ≤ 8 → jX P E b = nQ (fun j => P j ∧ E j) b
  | 0, _ => rfl
  | b + 1, h => by
    by_cases p : P (b : Nat)
    · rw [nQ_t p] at h
      have ih := jX_w (P := P) (E := E) b (by omega)
      by_cases e : E (b : Nat)
      · rw [jX_s, pI_t ⟨⟨p, e⟩, by omega⟩, ih, nQ_t (P := fun j => P j ∧ E j) ⟨p, e⟩]
      · rw [jX_s, pI_f (fun z => e z.1.2), ih, nQ_f (P := fun j => P j ∧ E j) (fun z => e z.2)]
    · rw [nQ_f p, Int.add_zero] at h
      rw [jX_s, pI_f (fun z => p z.1.1), jX_w b h, nQ_f (P := fun j => P j ∧ E j) (fun z => p z.1)]
theorem jX_b {P E : Int → Prop} : ∀ b : Nat, 0 ≤ jX P E b ∧ jX P E b ≤ min 8 (nQ P b)
  | 0 => ⟨Int.le_refl _, by show (0 : Int) ≤ min 8 0; decide⟩
  | b + 1 => by
    have ih := jX_b (P := P) (E := E) b
    have n0 := nQ_b P b
    by_cases p : P (b : Nat)
    · rw [jX_s, nQ_t p]
      by_cases z : (P (b : Nat) ∧ E (b : Nat)) ∧ nQ P b < 8
      · rw [pI_t z]
        omega
      · rw [pI_f z]
        omega
    · rw [jX_s, nQ_f p, pI_f (fun z => p z.1.1)]
      omega
theorem jX_c {P E P' E' : Int → Prop} : ∀ n : Nat, (∀ j : Int, 0 ≤ j → j < (n : Int) → (P j ↔ P' j) ∧ (P j → (E j ↔ E' j))) → jX P E n = jX P' E' n
  | 0, _ => rfl
  | n + 1, h => by
    have hn := h (n : Nat) (by omega) (by omega)
    rw [jX_s, jX_s, jX_c n (fun j a b => h j a (by omega)), nQ_c n (fun j a b => (h j a (by omega)).1)]
    congr 1
    refine pI_c ?_ (fun _ => rfl)
    constructor
    · rintro ⟨⟨a, b⟩, c⟩
      exact ⟨⟨hn.1.mp a, (hn.2 a).mp b⟩, c⟩
    · rintro ⟨⟨a, b⟩, c⟩
      exact ⟨⟨hn.1.mpr a, (hn.2 (hn.1.mpr a)).mpr b⟩, c⟩

theorem d66_0 {n : Nat} {X : aX} {h : aH} {P : aH → Prop} {x1 : Int32} {a1 : Int} (S : wS h) (z1 : x1.toInt = a1) (H : ((p1 h a1) ∧ ∀ (q4 : Nat) (h_4 : aH), (wS h_4 ∧ R1 h a1 (vw h 1 0) q4 h_4) → ∀ h_8 : aH, wS h_8 → vw h_8 = up (up (vw h_4) 48 13 0) 48 14 0 → (∀ (w3 : Int32), w3.toInt = 0 → Pt n X zM66 28 [some (.ref 48), some (.int x1), some (.ref q4), some (.int w3)] [] h_8 (qN P)))) : Pt (n + 1) X zM66 0 [some (.ref 48), some (.int x1), none, none] [] h (qN P) := by
  refine pt_1 (fun n d => r_aloadn gx66_0 rfl) ?_
  refine pt_d (pt_getR gx66_1 S tr_48_2 ?_)
  refine pt_d (pt_1 (fun n d => r_iloadn gx66_4 rfl) ?_)
  refine pt_d (pt_1 (fun n d => r_aloadn gx66_5 rfl) ?_)
  refine pt_d (pt_getR gx66_6 S tr_48_0 ?_)
  refine pt_d (pt_getI (B := 0) gx66_9 S (fun v3 h3 => ?_))
  obtain ⟨pr4, H⟩ := H
  refine pt_d (pt_virt (as := [.int x1, .int v3]) (r := []) gx66_12 rfl (show zmt[1]? = some zM1 from rfl) rfl rfl rfl rfl (c_1 S z1 h3 pr4) (kqR (fun q4 h_4 P4 => ?_)))
  have S4 := P4.1
  have H := H q4 h_4 P4
  show Pt _ _ _ 15 _ [.ref q4] _ _
  refine pt_d (pt_1 (fun n d => r_astoren (L' := [some (.ref 48), some (.int x1), some (.ref q4), none]) gx66_15 rfl rfl) ?_)
  refine pt_d (pt_1 (fun n d => r_aloadn gx66_16 rfl) ?_)
  refine pt_d (pt_iconst gx66_17 (fun v5 h5 => ?_))
  refine pt_d (pt_putI (B := 13) gx66_18 S4 h5 (fun h_6 S6 e6 => ?_))
  refine pt_d (pt_1 (fun n d => r_aloadn gx66_21 rfl) ?_)
  refine pt_d (pt_iconst gx66_22 (fun v7 h7 => ?_))
  refine pt_d (pt_putI (B := 14) gx66_23 S6 h7 (fun h_8 S8 e8 => ?_))
  refine pt_d (pt_iconst gx66_26 (fun v9 h9 => ?_))
  refine pt_d (pt_1 (fun n d => r_istoren (L' := [some (.ref 48), some (.int x1), some (.ref q4), some (.int v9)]) gx66_27 rfl rfl) ?_)
  have H := H h_8 S8 (by rw [e8, e6])
  exact H v9 h9
theorem d66_28 {n : Nat} {X : aX} {h : aH} {P : aH → Prop} {x1 x3 : Int32} {a1 a3 : Int} {q2 : Nat} (S : wS h) (z1 : x1.toInt = a1) (z3 : x3.toInt = a3) (H : ((vw h 1 1 ≤ a3 → ((vw h 48 13 ≠ 0 → P h) ∧ (vw h 48 13 = 0 → ∀ h_9 : aH, wS h_9 → vw h_9 = up (up (vw h) 48 15 0) 48 16 0 → P h_9))) ∧ (a3 < vw h 1 1 → ((¬ (cFarm (vw h) a3) → (∀ (w3 : Int32), w3.toInt = w32 (a3 + 1) → Pt n X zM66 28 [some (.ref 48), some (.int x1), some (.ref q2), some (.int w3)] [] h (qN P))) ∧ ((cFarm (vw h) a3) → ((0 ≤ vw h 16 3 ∧ vw h 16 3 ≤ 200) ∧ ((¬ (∃ c, (0 ≤ c ∧ c < vw h 16 3) ∧ (vw h 27 c = a3 ∧ vw h 29 c = a1)) → (∀ (w3 : Int32), w3.toInt = w32 (a3 + 1) → Pt n X zM66 28 [some (.ref 48), some (.int x1), some (.ref q2), some (.int w3)] [] h (qN P))) ∧ ((∃ c, (0 ≤ c ∧ c < vw h 16 3) ∧ (vw h 27 c = a3 ∧ vw h 29 c = a1)) → ∀ h_21 : aH, wS h_21 → vw h_21 = up (vw h) 48 13 (w32 ((vw h 48 13) + 1)) → ((PR102 (vw h_21) q2) ∧ ((cErr (vw h_21) q2 a3 ≤ 2 → ((8 < vw h_21 48 13 → ∀ h_28 : aH, wS h_28 → vw h_28 = up (vw h_21) 48 14 (w32 ((vw h 48 14) + 0)) → (∀ (w3 : Int32), w3.toInt = w32 (a3 + 1) → Pt n X zM66 28 [some (.ref 48), some (.int x1), some (.ref q2), some (.int w3)] [] h_28 (qN P))) ∧ (vw h_21 48 13 ≤ 8 → ∀ h_36 : aH, wS h_36 → vw h_36 = up (up (up (vw h_21) 48 14 (w32 ((vw h 48 14) + 0))) 48 15 (vw h_21 48 13)) 48 16 (w32 ((vw h 48 14) + 0)) → (∀ (w3 : Int32), w3.toInt = w32 (a3 + 1) → Pt n X zM66 28 [some (.ref 48), some (.int x1), some (.ref q2), some (.int w3)] [] h_36 (qN P))))) ∧ (2 < cErr (vw h_21) q2 a3 → ((8 < vw h_21 48 13 → ∀ h_40 : aH, wS h_40 → vw h_40 = up (vw h_21) 48 14 (w32 ((vw h 48 14) + 1)) → (∀ (w3 : Int32), w3.toInt = w32 (a3 + 1) → Pt n X zM66 28 [some (.ref 48), some (.int x1), some (.ref q2), some (.int w3)] [] h_40 (qN P))) ∧ (vw h_21 48 13 ≤ 8 → ∀ h_48 : aH, wS h_48 → vw h_48 = up (up (up (vw h_21) 48 14 (w32 ((vw h 48 14) + 1))) 48 15 (vw h_21 48 13)) 48 16 (w32 ((vw h 48 14) + 1)) → (∀ (w3 : Int32), w3.toInt = w32 (a3 + 1) → Pt n X zM66 28 [some (.ref 48), some (.int x1), some (.ref q2), some (.int w3)] [] h_48 (qN P))))))))))))))) : Pt (n + 1) X zM66 28 [some (.ref 48), some (.int x1), some (.ref q2), some (.int x3)] [] h (qN P) := by
  refine pt_1 (fun n d => r_iloadn gx66_28 rfl) ?_
  refine pt_d (pt_1 (fun n d => r_aloadn gx66_29 rfl) ?_)
  refine pt_d (pt_getR gx66_30 S tr_48_0 ?_)
  refine pt_d (pt_getI (B := 1) gx66_33 S (fun v2 h2 => ?_))
  refine pt_d (pt_icmp_ge gx66_36 z3 h2 (fun e3 => ?_) (fun e3 => ?_))
  · have H := H.1 e3
    refine pt_d (pt_1 (fun n d => r_aloadn gx66_126 rfl) ?_)
    refine pt_d (pt_getI (B := 13) gx66_127 S (fun v4 h4 => ?_))
    refine pt_d (pt_if_ne gx66_130 h4 (fun e5 => ?_) (fun e5 => ?_))
    · have H := H.1 e5
      exact pt_d (pt_vret gx66_143 ⟨rfl, H⟩)
    · have H := H.2 e5
      refine pt_d (pt_1 (fun n d => r_aloadn gx66_133 rfl) ?_)
      refine pt_d (pt_iconst gx66_134 (fun v6 h6 => ?_))
      refine pt_d (pt_putI (B := 15) gx66_135 S h6 (fun h_7 S7 e7 => ?_))
      refine pt_d (pt_1 (fun n d => r_aloadn gx66_138 rfl) ?_)
      refine pt_d (pt_iconst gx66_139 (fun v8 h8 => ?_))
      refine pt_d (pt_putI (B := 16) gx66_140 S7 h8 (fun h_9 S9 e9 => ?_))
      have H := H h_9 S9 (by rw [e9, e7])
      exact pt_d (pt_vret gx66_143 ⟨rfl, H⟩)
  · have H := H.2 e3
    refine pt_d (pt_1 (fun n d => r_aloadn gx66_39 rfl) ?_)
    refine pt_d (pt_getR gx66_40 S tr_48_0 ?_)
    refine pt_d (pt_1 (fun n d => r_iloadn gx66_43 rfl) ?_)
    refine pt_d (pt_virt (as := [.int x3]) (r := []) gx66_44 rfl (show zmt[75]? = some zM75 from rfl) rfl rfl rfl rfl (c_75 S z3) (kqP (fun v11 h11 => ?_)))
    show Pt _ _ _ 47 _ [.int v11] _ _
    refine pt_d (pt_ifB_eq gx66_47 h11 (fun e12 => ?_) (fun e12 => ?_))
    · have H := H.1 e12
      refine pt_d (pt_iinc (c := 1) gx66_120 rfl z3 (fun v13 h13 => ?_))
      show Pt _ _ _ _ [some (.ref 48), some (.int x1), some (.ref q2), some (.int v13)] [] _ _
      refine pt_d (pt_1 (fun n d => r_goto gx66_123) ?_)
      exact H v13 h13
    · have H := H.2 e12
      refine pt_d (pt_1 (fun n d => r_aloadn gx66_50 rfl) ?_)
      refine pt_d (pt_getR gx66_51 S tr_48_1 ?_)
      refine pt_d (pt_1 (fun n d => r_iloadn gx66_54 rfl) ?_)
      refine pt_d (pt_1 (fun n d => r_iloadn gx66_55 rfl) ?_)
      obtain ⟨pr15, H⟩ := H
      refine pt_d (pt_virt (as := [.int x3, .int x1]) (r := []) gx66_56 rfl (show zmt[36]? = some zM36 from rfl) rfl rfl rfl rfl (c_36 S z3 z1 pr15) (kqP (fun v15 h15 => ?_)))
      show Pt _ _ _ 59 _ [.int v15] _ _
      refine pt_d (pt_ifB_eq gx66_59 h15 (fun e16 => ?_) (fun e16 => ?_))
      · have H := H.1 e16
        refine pt_d (pt_iinc (c := 1) gx66_120 rfl z3 (fun v17 h17 => ?_))
        show Pt _ _ _ _ [some (.ref 48), some (.int x1), some (.ref q2), some (.int v17)] [] _ _
        refine pt_d (pt_1 (fun n d => r_goto gx66_123) ?_)
        exact H v17 h17
      · have H := H.2 e16
        refine pt_d (pt_1 (fun n d => r_aloadn gx66_62 rfl) ?_)
        refine pt_d (pt_1 (fun n d => r_dup gx66_63 rfl) ?_)
        refine pt_d (pt_getI (B := 13) gx66_64 S (fun v18 h18 => ?_))
        refine pt_d (pt_iconst gx66_67 (fun v19 h19 => ?_))
        refine pt_d (pt_iadd gx66_68 h18 h19 (fun v20 h20 => ?_))
        refine pt_d (pt_putI (B := 13) gx66_69 S h20 (fun h_21 S21 e21 => ?_))
        refine pt_d (pt_1 (fun n d => r_aloadn gx66_72 rfl) ?_)
        refine pt_d (pt_1 (fun n d => r_dup gx66_73 rfl) ?_)
        refine pt_d (pt_getI (B := 14) gx66_74 S21 (fun v22 h22 => ?_))
        have h22 : v22.toInt = vw h 48 14 := by rw [h22, e21, up_j (by decide)]
        refine pt_d (pt_1 (fun n d => r_aloadn gx66_77 rfl) ?_)
        refine pt_d (pt_1 (fun n d => r_iloadn gx66_78 rfl) ?_)
        have H := H h_21 S21 (by rw [e21])
        obtain ⟨pr23, H⟩ := H
        refine pt_d (pt_virt (as := [.int x3]) (r := [.int v22, .ref 48]) gx66_79 rfl (show zmt[102]? = some zM102 from rfl) rfl rfl rfl rfl (c_102 S21 z3 pr23) (kqP (fun v23 h23 => ?_)))
        show Pt _ _ _ 82 _ [.int v23, .int v22, .ref 48] _ _
        refine pt_d (pt_iconst gx66_82 (fun v24 h24 => ?_))
        refine pt_d (pt_icmp_le gx66_83 h23 h24 (fun e25 => ?_) (fun e25 => ?_))
        · have H := H.1 e25
          refine pt_d (pt_iconst gx66_90 (fun v26 h26 => ?_))
          refine pt_d (pt_iadd gx66_91 h22 h26 (fun v27 h27 => ?_))
          refine pt_d (pt_putI (B := 14) gx66_92 S21 h27 (fun h_28 S28 e28 => ?_))
          refine pt_d (pt_1 (fun n d => r_aloadn gx66_95 rfl) ?_)
          refine pt_d (pt_getI (B := 13) gx66_96 S28 (fun v29 h29 => ?_))
          have h29 : v29.toInt = vw h_21 48 13 := by rw [h29, e28, up_j (by decide)]
          refine pt_d (pt_bipush gx66_99 (fun v30 h30 => ?_))
          refine pt_d (pt_icmp_gt gx66_101 h29 h30 (fun e31 => ?_) (fun e31 => ?_))
          · have H := H.1 e31
            refine pt_d (pt_iinc (c := 1) gx66_120 rfl z3 (fun v32 h32 => ?_))
            show Pt _ _ _ _ [some (.ref 48), some (.int x1), some (.ref q2), some (.int v32)] [] _ _
            refine pt_d (pt_1 (fun n d => r_goto gx66_123) ?_)
            have H := H h_28 S28 (by rw [e28])
            exact H v32 h32
          · have H := H.2 e31
            refine pt_d (pt_1 (fun n d => r_aloadn gx66_104 rfl) ?_)
            refine pt_d (pt_1 (fun n d => r_aloadn gx66_105 rfl) ?_)
            refine pt_d (pt_getI (B := 13) gx66_106 S28 (fun v33 h33 => ?_))
            have h33 : v33.toInt = vw h_21 48 13 := by rw [h33, e28, up_j (by decide)]
            refine pt_d (pt_putI (B := 15) gx66_109 S28 h33 (fun h_34 S34 e34 => ?_))
            refine pt_d (pt_1 (fun n d => r_aloadn gx66_112 rfl) ?_)
            refine pt_d (pt_1 (fun n d => r_aloadn gx66_113 rfl) ?_)
            refine pt_d (pt_getI (B := 14) gx66_114 S34 (fun v35 h35 => ?_))
            have h35 : v35.toInt = w32 ((vw h 48 14) + 0) := by rw [h35, e34, up_j (by decide), e28, up_s]
            refine pt_d (pt_putI (B := 16) gx66_117 S34 h35 (fun h_36 S36 e36 => ?_))
            refine pt_d (pt_iinc (c := 1) gx66_120 rfl z3 (fun v37 h37 => ?_))
            show Pt _ _ _ _ [some (.ref 48), some (.int x1), some (.ref q2), some (.int v37)] [] _ _
            refine pt_d (pt_1 (fun n d => r_goto gx66_123) ?_)
            have H := H h_36 S36 (by rw [e36, e34, e28])
            exact H v37 h37
        · have H := H.2 e25
          refine pt_d (pt_iconst gx66_86 (fun v38 h38 => ?_))
          refine pt_d (pt_1 (fun n d => r_goto gx66_87) ?_)
          refine pt_d (pt_iadd gx66_91 h22 h38 (fun v39 h39 => ?_))
          refine pt_d (pt_putI (B := 14) gx66_92 S21 h39 (fun h_40 S40 e40 => ?_))
          refine pt_d (pt_1 (fun n d => r_aloadn gx66_95 rfl) ?_)
          refine pt_d (pt_getI (B := 13) gx66_96 S40 (fun v41 h41 => ?_))
          have h41 : v41.toInt = vw h_21 48 13 := by rw [h41, e40, up_j (by decide)]
          refine pt_d (pt_bipush gx66_99 (fun v42 h42 => ?_))
          refine pt_d (pt_icmp_gt gx66_101 h41 h42 (fun e43 => ?_) (fun e43 => ?_))
          · have H := H.1 e43
            refine pt_d (pt_iinc (c := 1) gx66_120 rfl z3 (fun v44 h44 => ?_))
            show Pt _ _ _ _ [some (.ref 48), some (.int x1), some (.ref q2), some (.int v44)] [] _ _
            refine pt_d (pt_1 (fun n d => r_goto gx66_123) ?_)
            have H := H h_40 S40 (by rw [e40])
            exact H v44 h44
          · have H := H.2 e43
            refine pt_d (pt_1 (fun n d => r_aloadn gx66_104 rfl) ?_)
            refine pt_d (pt_1 (fun n d => r_aloadn gx66_105 rfl) ?_)
            refine pt_d (pt_getI (B := 13) gx66_106 S40 (fun v45 h45 => ?_))
            have h45 : v45.toInt = vw h_21 48 13 := by rw [h45, e40, up_j (by decide)]
            refine pt_d (pt_putI (B := 15) gx66_109 S40 h45 (fun h_46 S46 e46 => ?_))
            refine pt_d (pt_1 (fun n d => r_aloadn gx66_112 rfl) ?_)
            refine pt_d (pt_1 (fun n d => r_aloadn gx66_113 rfl) ?_)
            refine pt_d (pt_getI (B := 14) gx66_114 S46 (fun v47 h47 => ?_))
            have h47 : v47.toInt = w32 ((vw h 48 14) + 1) := by rw [h47, e46, up_j (by decide), e40, up_s]
            refine pt_d (pt_putI (B := 16) gx66_117 S46 h47 (fun h_48 S48 e48 => ?_))
            refine pt_d (pt_iinc (c := 1) gx66_120 rfl z3 (fun v49 h49 => ?_))
            show Pt _ _ _ _ [some (.ref 48), some (.int x1), some (.ref q2), some (.int v49)] [] _ _
            refine pt_d (pt_1 (fun n d => r_goto gx66_123) ?_)
            have H := H h_48 S48 (by rw [e48, e46, e40])
            exact H v49 h49

-- ===== the class works a text out =====
theorem b255 : ∀ t : Fin 128, bAnd (t.val : Int) 255 = (t.val : Int) := by decide +kernel
theorem cSg_v {V : vS} (I : tIn V) (h : V 33 12 = -1) (hp : 0 ≤ cTx V (V 33 11)) : cSg V = cTx V (V 33 11) ∧ cTx V (V 33 11) < 128 := by
  have b := I.1
  have b2 := I.2.1
  have b3 := I.2.2.1
  by_cases z : V 33 11 < V 33 10
  · have e : cTx V (V 33 11) = V 35 (V 33 9 + V 33 11) := if_pos ⟨b.1, z⟩
    have r := I.2.2.2 (V 33 9 + V 33 11) (by omega) (by omega)
    rw [e] at hp ⊢
    have c : cSg V = bAnd (V 35 (w32 (V 33 9 + V 33 11))) 255 := if_pos ⟨h, z⟩
    rw [c, w32_id (by omega) (by omega)]
    have k := b255 ⟨(V 35 (V 33 9 + V 33 11)).toNat, by omega⟩
    rw [show (((⟨(V 35 (V 33 9 + V 33 11)).toNat, by omega⟩ : Fin 128).val : Nat) : Int) = V 35 (V 33 9 + V 33 11) by show (((V 35 (V 33 9 + V 33 11)).toNat : Nat) : Int) = _; omega] at k
    exact ⟨k, by omega⟩
  · have e : cTx V (V 33 11) = -1 := if_neg (fun w => z w.2)
    rw [e] at hp
    omega
theorem nmI : ∀ t : Fin 128, nmB (t.val : Int) = true → iIx (bChr (t.val : Int)) = nmV (t.val : Int) := by decide +kernel
theorem nmB_r {t : Int} (h : nmB t = true) : 0 ≤ t ∧ t < 128 := by
  unfold nmB at h
  simp only [Bool.or_eq_true, beq_iff_eq] at h
  omega
theorem l_135v {X : aX} : ∀ (n : Nat) (h : aH) (x1 x2 : Int32) (j : Nat) (v : Int), wS h → tIn (vw h) → vw h 33 12 = -1 → j ≤ 6 → x1.toInt = v → x2.toInt = 6 - (j : Int) → Pt n X zM135 4 [some (.ref 33), some (.int x1), some (.int x2)] [] h (qI (fun r _ => r = dgVal (cTx (vw h)) j (vw h 33 11) v)) := by
  intro n
  induction n with
  | zero => intros; exact pt_z
  | succ n ih =>
    intro h x1 x2 j v S I e12 hj h1 h2
    have bI := I.1
    have bI2 := I.2.1
    refine d135_4 S h1 h2 ⟨fun e1 => ?_, fun e1 => ⟨fun e2 => ?_, fun e2 g S2 eg w1 w2 g1 g2 => ?_⟩⟩
    · obtain rfl : j = 0 := by omega
      rfl
    · obtain ⟨i, rfl⟩ : ∃ i, j = i + 1 := ⟨j - 1, by omega⟩
      have z : isD (cTx (vw h) (vw h 33 11)) = false := by
        cases w : isD (cTx (vw h) (vw h 33 11)) with
        | false => rfl
        | true => exact absurd ((cSg_d I e12).mpr w) e2
      show v = bif isD (cTx (vw h) (vw h 33 11)) then _ else v
      rw [z]
      rfl
    · obtain ⟨i, rfl⟩ : ∃ i, j = i + 1 := ⟨j - 1, by omega⟩
      have z := (cSg_d I e12).mp e2
      have pos : 48 ≤ cTx (vw h) (vw h 33 11) ∧ cTx (vw h) (vw h 33 11) ≤ 57 := of_decide_eq_true z
      have lt : vw h 33 11 < vw h 33 10 := cT_lt I (by omega)
      replace g2 := w_1 g2 (by omega) (by omega)
      rw [w32_id (by omega) (by omega)] at eg
      obtain ⟨s1, s2, s3, -⟩ := v_st eg
      have k := ih g w1 w2 i _ S2 (by
        obtain ⟨a, b, c, d⟩ := I
        rw [eg]
        refine ⟨?_, ?_, ?_, fun j u v => ?_⟩
        · rw [up_s, up_j (by decide)]
          omega
        · rw [up_j (by decide)]
          exact b
        · rw [up_j (by decide)]
          exact c
        · rw [up_c (by decide)]
          exact d j u v) (s3.trans e12) (by omega) g1 (by omega)
      refine pt_q k ?_
      rintro v' h' ⟨x, ex, r⟩
      refine ⟨x, ex, r.trans ?_⟩
      rw [s1, s2, (cSg_v I e12 (by omega)).1]
      show _ = bif isD (cTx (vw h) (vw h 33 11)) then _ else v
      rw [z]
      rfl
theorem c_135v {n : Nat} {X : aX} {h : aH} (S : wS h) (hp : tIn (vw h) ∧ vw h 33 12 = -1) : Pt n X zM135 0 [some (.ref 33), none, none] [] h (qI (fun r h' => wS h' ∧ vw h' = up (vw h) 33 11 (dgEnd (cTx (vw h)) 6 (vw h 33 11)) ∧ r = dgVal (cTx (vw h)) 6 (vw h 33 11) 0)) := by
  refine pt_q (pt_and (c_135 S hp) (show Pt n X zM135 0 [some (.ref 33), none, none] [] h (qI (fun r _ => r = dgVal (cTx (vw h)) 6 (vw h 33 11) 0)) from ?_)) ?_
  · exact pt_d (d135_0 S (fun w1 w2 g1 g2 => l_135v n h w1 w2 6 0 S hp.1 hp.2 (Nat.le_refl _) g1 (by rw [g2]; rfl)))
  · rintro v h' ⟨⟨x, rfl, p1, p2⟩, ⟨x', ev, p3⟩⟩
    exact ⟨x', ev, p1, p2, p3⟩
section VO
variable {o : Int} {V V1 V4 V' : vS}
theorem v_un {c y y2 r w : Int} (hc : (c = 33 ∧ w = 3) ∨ (c = 45 ∧ w = 4)) (wo : w32 (o + 1) = o + 1) (k : R125 V c y V4) (hy : y ≠ 0) (c1 : vRes 0 (w32 (o + 1)) V4 y2 V') (er : ∀ (N : Int → Int) st, stpP N w 0 (y2 :: st) = r :: st) : vRes 0 o V r V' := by
  intro q L d
  obtain ⟨⟨k1, k2, k3⟩, k4⟩ := tk_1 k hy
  obtain ⟨u1, u2, u3, u4⟩ := v_st k4
  rw [wo] at c1
  rcases ko_x d with ⟨a, -⟩ | ⟨-, n, w', L1, a, d1, rfl⟩ | ⟨-, n, a, -⟩ | ⟨-, ⟨a, b, -⟩, -⟩
  · rw [k2] at a
    rcases hc with ⟨rfl, -⟩ | ⟨rfl, -⟩ <;> cases a
  · rw [k2] at a
    obtain rfl : w' = w := by omega
    obtain ⟨e1, r1⟩ := c1 q L1 (by rw [u1, u2]; exact d1)
    refine ⟨by rw [e1, k4, up_up], fun st => ?_⟩
    have r1 := r1 st
    rw [u4] at r1
    rw [run_a, r1, run_c, er]
    rfl
  · rw [k2] at a
    omega
  · rw [k2] at a b
    omega
theorem v_br {y y2 y3 : Int} (wo : w32 (o + 1) = o + 1) (k : R125 V 40 y V4) (hy : y ≠ 0) (c1 : vRes 8 (w32 (o + 1)) V4 y2 V1) : (∀ V', R125 V1 41 y3 V' → y3 ≠ 0 → vRes 0 o V y2 V') ∧ (∀ V2 V', R125 V1 41 y3 V2 → y3 = 0 → vRes 0 o V y2 V') := by
  obtain ⟨⟨k1, k2, k3⟩, k4⟩ := tk_1 k hy
  obtain ⟨u1, u2, u3, u4⟩ := v_st k4
  rw [wo] at c1
  have go : ∀ q L, Cd (cTx V) 0 o (V 33 11) q L → ∃ q1, V1 = up V4 33 11 q1 ∧ (∀ st, run (fun j => V4 43 j) L st = y2 :: st) ∧ cTx V q1 = 41 ∧ q = q1 + 1 := fun q L d => by
    rcases ko_x d with ⟨a, -⟩ | ⟨-, n, w', L1, a, -⟩ | ⟨-, n, a, q1, d1, t1, e⟩ | ⟨-, ⟨-, -, a⟩, -⟩
    · rw [k2] at a
      cases a
    · rw [k2] at a
      omega
    · obtain ⟨e1, r1⟩ := c1 q1 L (by rw [u1, u2]; exact d1)
      exact ⟨q1, e1, r1, t1, e⟩
    · exact absurd k2 a
  refine ⟨fun V' k5 h3 q L d => ?_, fun V2 V' k5 h3 q L d => ?_⟩
  · obtain ⟨q1, e1, r1, t1, rfl⟩ := go q L d
    obtain ⟨s1, s2, s3, s4⟩ := v_st e1
    obtain ⟨-, e5⟩ := tk_1 k5 h3
    refine ⟨by rw [e5, s2, e1, k4, up_up, up_up], fun st => ?_⟩
    have r1 := r1 st
    rw [u4] at r1
    exact r1
  · obtain ⟨q1, e1, r1, t1, rfl⟩ := go q L d
    obtain ⟨s1, s2, s3, s4⟩ := v_st e1
    have n := (tk_0 k5 h3).2 (s3.trans (u3.trans k1))
    rw [s1, u1, s2] at n
    exact absurd t1 n
theorem v_no {r : Int} (h : ∀ q L, ¬ Cd (cTx V) 0 o (V 33 11) q L) : vRes 0 o V r V' := fun q L d => absurd d (h q L)
end VO

theorem g133_0 {n : Nat} {X : aX} {h : aH} {P : Int → aH → Prop} {x1 : Int32} {a1 : Int} (S : wS h) (z1 : x1.toInt = a1) (K133 : vt133 n X) (K128 : vt128 n X) (H : ((¬ (48 ≤ (cSg (vw h)) ∧ (cSg (vw h)) ≤ 57) → ((cSg (vw h) ≠ (-1) → ((iIx (bChr (cSg (vw h))) = (-1) → ((a1 < 8 → ((tIn (vw h) ∧ (0 : Int) ≤ 33 ∧ (33 : Int) ≤ 127) ∧ ∀ (y13 : Int) (h_13 : aH), (wS h_13 ∧ R125 (vw h) 33 y13 (vw h_13)) → ((y13 = 0 → ((tIn (vw h_13) ∧ (0 : Int) ≤ 45 ∧ (45 : Int) ≤ 127) ∧ ∀ (y16 : Int) (h_16 : aH), (wS h_16 ∧ R125 (vw h_13) 45 y16 (vw h_16)) → ((y16 = 0 → ((tIn (vw h_16) ∧ (0 : Int) ≤ 40 ∧ (40 : Int) ≤ 127) ∧ ∀ (y19 : Int) (h_19 : aH), (wS h_19 ∧ R125 (vw h_16) 40 y19 (vw h_19)) → ((y19 ≠ 0 → ((cpre (vw h_19) (w32 (a1 + 1)) ∧ vw h_19 33 13 = ((43 : Nat) : Int)) ∧ ∀ (y23 : Int) (h_23 : aH), (wS h_23 ∧ cRes 8 (w32 (a1 + 1)) (vw h_19) (vw h_23) ∧ vRes 8 (w32 (a1 + 1)) (vw h_19) y23 (vw h_23)) → ((tIn (vw h_23) ∧ (0 : Int) ≤ 41 ∧ (41 : Int) ≤ 127) ∧ ∀ (y25 : Int) (h_25 : aH), (wS h_25 ∧ R125 (vw h_23) 41 y25 (vw h_25)) → ((y25 ≠ 0 → P y23 h_25) ∧ (y25 = 0 → ∀ (h_27 : aH), (wS h_27 ∧ R126 (vw h_25) (vw h_27)) → P y23 h_27))))) ∧ (y19 = 0 → ∀ (h_28 : aH), (wS h_28 ∧ R126 (vw h_19) (vw h_28)) → P 0 h_28)))) ∧ (y16 ≠ 0 → ((cpre (vw h_16) (w32 (a1 + 1)) ∧ vw h_16 33 13 = ((43 : Nat) : Int)) ∧ ∀ (y32 : Int) (h_32 : aH), (wS h_32 ∧ cRes 0 (w32 (a1 + 1)) (vw h_16) (vw h_32) ∧ vRes 0 (w32 (a1 + 1)) (vw h_16) y32 (vw h_32)) → P (w32 (-y32)) h_32))))) ∧ (y13 ≠ 0 → ((cpre (vw h_13) (w32 (a1 + 1)) ∧ vw h_13 33 13 = ((43 : Nat) : Int)) ∧ ∀ (y36 : Int) (h_36 : aH), (wS h_36 ∧ cRes 0 (w32 (a1 + 1)) (vw h_13) (vw h_36) ∧ vRes 0 (w32 (a1 + 1)) (vw h_13) y36 (vw h_36)) → ((y36 ≠ 0 → P (if (0 : Int) = 0 then 0 else 1) h_36) ∧ (y36 = 0 → P (if (1 : Int) = 0 then 0 else 1) h_36))))))) ∧ (8 ≤ a1 → ∀ (h_42 : aH), (wS h_42 ∧ R126 (vw h) (vw h_42)) → P 0 h_42))) ∧ (iIx (bChr (cSg (vw h))) ≠ (-1) → ∀ h_47 : aH, wS h_47 → vw h_47 = up (vw h) 33 11 (w32 ((vw h 33 11) + 1)) → ((vw h_47 33 13 = -1 → True) ∧ (∀ q48 : Nat, (q48 : Int) = vw h_47 33 13 → (0 ≤ iIx (bChr (cSg (vw h))) → P (vw h_47 q48 (iIx (bChr (cSg (vw h))))) h_47)))))) ∧ (cSg (vw h) = (-1) → ((a1 < 8 → ((tIn (vw h) ∧ (0 : Int) ≤ 33 ∧ (33 : Int) ≤ 127) ∧ ∀ (y57 : Int) (h_57 : aH), (wS h_57 ∧ R125 (vw h) 33 y57 (vw h_57)) → ((y57 = 0 → ((tIn (vw h_57) ∧ (0 : Int) ≤ 45 ∧ (45 : Int) ≤ 127) ∧ ∀ (y60 : Int) (h_60 : aH), (wS h_60 ∧ R125 (vw h_57) 45 y60 (vw h_60)) → ((y60 = 0 → ((tIn (vw h_60) ∧ (0 : Int) ≤ 40 ∧ (40 : Int) ≤ 127) ∧ ∀ (y63 : Int) (h_63 : aH), (wS h_63 ∧ R125 (vw h_60) 40 y63 (vw h_63)) → ((y63 ≠ 0 → ((cpre (vw h_63) (w32 (a1 + 1)) ∧ vw h_63 33 13 = ((43 : Nat) : Int)) ∧ ∀ (y67 : Int) (h_67 : aH), (wS h_67 ∧ cRes 8 (w32 (a1 + 1)) (vw h_63) (vw h_67) ∧ vRes 8 (w32 (a1 + 1)) (vw h_63) y67 (vw h_67)) → ((tIn (vw h_67) ∧ (0 : Int) ≤ 41 ∧ (41 : Int) ≤ 127) ∧ ∀ (y69 : Int) (h_69 : aH), (wS h_69 ∧ R125 (vw h_67) 41 y69 (vw h_69)) → ((y69 ≠ 0 → P y67 h_69) ∧ (y69 = 0 → ∀ (h_71 : aH), (wS h_71 ∧ R126 (vw h_69) (vw h_71)) → P y67 h_71))))) ∧ (y63 = 0 → ∀ (h_72 : aH), (wS h_72 ∧ R126 (vw h_63) (vw h_72)) → P 0 h_72)))) ∧ (y60 ≠ 0 → ((cpre (vw h_60) (w32 (a1 + 1)) ∧ vw h_60 33 13 = ((43 : Nat) : Int)) ∧ ∀ (y76 : Int) (h_76 : aH), (wS h_76 ∧ cRes 0 (w32 (a1 + 1)) (vw h_60) (vw h_76) ∧ vRes 0 (w32 (a1 + 1)) (vw h_60) y76 (vw h_76)) → P (w32 (-y76)) h_76))))) ∧ (y57 ≠ 0 → ((cpre (vw h_57) (w32 (a1 + 1)) ∧ vw h_57 33 13 = ((43 : Nat) : Int)) ∧ ∀ (y80 : Int) (h_80 : aH), (wS h_80 ∧ cRes 0 (w32 (a1 + 1)) (vw h_57) (vw h_80) ∧ vRes 0 (w32 (a1 + 1)) (vw h_57) y80 (vw h_80)) → ((y80 ≠ 0 → P (if (0 : Int) = 0 then 0 else 1) h_80) ∧ (y80 = 0 → P (if (1 : Int) = 0 then 0 else 1) h_80))))))) ∧ (8 ≤ a1 → ∀ (h_86 : aH), (wS h_86 ∧ R126 (vw h) (vw h_86)) → P 0 h_86))))) ∧ ((48 ≤ (cSg (vw h)) ∧ (cSg (vw h)) ≤ 57) → ((tIn (vw h) ∧ vw h 33 12 = -1) ∧ ∀ (y88 : Int) (h_88 : aH), (wS h_88 ∧ vw h_88 = up (vw h) 33 11 (dgEnd (cTx (vw h)) 6 (vw h 33 11)) ∧ y88 = dgVal (cTx (vw h)) 6 (vw h 33 11) 0) → P y88 h_88)))) : Pt (n + 1) X zM133 0 [some (.ref 33), some (.int x1), none, none, none] [] h (qI P) := by
  refine pt_1 (fun n d => r_aloadn gx133_0 rfl) ?_
  refine pt_d (pt_virt (as := []) (r := []) gx133_1 rfl (show zmt[124]? = some zM124 from rfl) rfl rfl rfl rfl (c_124 S) (kqP (fun v1 h1 => ?_)))
  show Pt _ _ _ 4 _ [.int v1] _ _
  refine pt_d (pt_1 (fun n d => r_istoren (L' := [some (.ref 33), some (.int x1), some (.int v1), none, none]) gx133_4 rfl rfl) ?_)
  refine pt_d (pt_1 (fun n d => r_iloadn gx133_5 rfl) ?_)
  refine pt_d (pt_stat (as := [.int v1]) (r := []) gx133_6 rfl (show zmt[134]? = some zM134 from rfl) rfl rfl rfl rfl (c_134 S h1) (kqP (fun v2 h2 => ?_)))
  show Pt _ _ _ 9 _ [.int v2] _ _
  refine pt_d (pt_ifB_eq gx133_9 h2 (fun e3 => ?_) (fun e3 => ?_))
  · have H := H.1 e3
    refine pt_d (pt_1 (fun n d => r_iloadn gx133_17 rfl) ?_)
    refine pt_d (pt_iconst gx133_18 (fun v4 h4 => ?_))
    refine pt_d (pt_icmp_ne gx133_19 h1 h4 (fun e5 => ?_) (fun e5 => ?_))
    · have H := H.1 e5
      refine pt_d (pt_1 (fun n d => r_ldcS gx133_26) ?_)
      refine pt_d (pt_1 (fun n d => r_iloadn gx133_28 rfl) ?_)
      refine pt_d (pt_i2c gx133_29 h1 (fun v6 h6 => ?_))
      refine pt_d (pt_ix gx133_30 rfl h6 (fun v7 h7 => ?_))
      refine pt_d (pt_1 (fun n d => r_istoren (L' := [some (.ref 33), some (.int x1), some (.int v1), some (.int v7), none]) gx133_33 rfl rfl) ?_)
      refine pt_d (pt_1 (fun n d => r_iloadn gx133_34 rfl) ?_)
      refine pt_d (pt_iconst gx133_35 (fun v8 h8 => ?_))
      refine pt_d (pt_icmp_eq gx133_36 h7 h8 (fun e9 => ?_) (fun e9 => ?_))
      · have H := H.1 e9
        refine pt_d (pt_1 (fun n d => r_iloadn gx133_56 rfl) ?_)
        refine pt_d (pt_bipush gx133_57 (fun v10 h10 => ?_))
        refine pt_d (pt_icmp_lt gx133_59 z1 h10 (fun e11 => ?_) (fun e11 => ?_))
        · have H := H.1 e11
          refine pt_d (pt_1 (fun n d => r_aloadn gx133_68 rfl) ?_)
          refine pt_d (pt_bipush gx133_69 (fun v12 h12 => ?_))
          obtain ⟨pr13, H⟩ := H
          refine pt_d (pt_virt (as := [.int v12]) (r := []) gx133_71 rfl (show zmt[125]? = some zM125 from rfl) rfl rfl rfl rfl (c_125 S h12 pr13) (kqI (fun v13 y13 h_13 h13 P13 => ?_)))
          have S13 := P13.1
          have H := H y13 h_13 P13
          show Pt _ _ _ 74 _ [.int v13] _ _
          refine pt_d (pt_if_eq gx133_74 h13 (fun e14 => ?_) (fun e14 => ?_))
          · have H := H.1 e14
            refine pt_d (pt_1 (fun n d => r_aloadn gx133_96 rfl) ?_)
            refine pt_d (pt_bipush gx133_97 (fun v15 h15 => ?_))
            obtain ⟨pr16, H⟩ := H
            refine pt_d (pt_virt (as := [.int v15]) (r := []) gx133_99 rfl (show zmt[125]? = some zM125 from rfl) rfl rfl rfl rfl (c_125 S13 h15 pr16) (kqI (fun v16 y16 h_16 h16 P16 => ?_)))
            have S16 := P16.1
            have H := H y16 h_16 P16
            show Pt _ _ _ 102 _ [.int v16] _ _
            refine pt_d (pt_if_eq gx133_102 h16 (fun e17 => ?_) (fun e17 => ?_))
            · have H := H.1 e17
              refine pt_d (pt_1 (fun n d => r_aloadn gx133_114 rfl) ?_)
              refine pt_d (pt_bipush gx133_115 (fun v18 h18 => ?_))
              obtain ⟨pr19, H⟩ := H
              refine pt_d (pt_virt (as := [.int v18]) (r := []) gx133_117 rfl (show zmt[125]? = some zM125 from rfl) rfl rfl rfl rfl (c_125 S16 h18 pr19) (kqI (fun v19 y19 h_19 h19 P19 => ?_)))
              have S19 := P19.1
              have H := H y19 h_19 P19
              show Pt _ _ _ 120 _ [.int v19] _ _
              refine pt_d (pt_if_ne gx133_120 h19 (fun e20 => ?_) (fun e20 => ?_))
              · have H := H.1 e20
                refine pt_d (pt_1 (fun n d => r_aloadn gx133_129 rfl) ?_)
                refine pt_d (pt_1 (fun n d => r_iloadn gx133_130 rfl) ?_)
                refine pt_d (pt_iconst gx133_131 (fun v21 h21 => ?_))
                refine pt_d (pt_iadd gx133_132 z1 h21 (fun v22 h22 => ?_))
                obtain ⟨pr23, H⟩ := H
                refine pt_d (pt_virt (as := [.int v22]) (r := []) gx133_133 rfl (show zmt[128]? = some zM128 from rfl) rfl rfl rfl rfl (K128 S19 h22 pr23) (kqI (fun v23 y23 h_23 h23 P23 => ?_)))
                have S23 := P23.1
                have H := H y23 h_23 P23
                show Pt _ _ _ 136 _ [.int v23] _ _
                refine pt_d (pt_1 (fun n d => r_istore (L' := [some (.ref 33), some (.int x1), some (.int v1), some (.int v7), some (.int v23)]) gx133_136 rfl rfl) ?_)
                refine pt_d (pt_1 (fun n d => r_aloadn gx133_138 rfl) ?_)
                refine pt_d (pt_bipush gx133_139 (fun v24 h24 => ?_))
                obtain ⟨pr25, H⟩ := H
                refine pt_d (pt_virt (as := [.int v24]) (r := []) gx133_141 rfl (show zmt[125]? = some zM125 from rfl) rfl rfl rfl rfl (c_125 S23 h24 pr25) (kqI (fun v25 y25 h_25 h25 P25 => ?_)))
                have S25 := P25.1
                have H := H y25 h_25 P25
                show Pt _ _ _ 144 _ [.int v25] _ _
                refine pt_d (pt_if_ne gx133_144 h25 (fun e26 => ?_) (fun e26 => ?_))
                · have H := H.1 e26
                  refine pt_d (pt_1 (fun n d => r_iload gx133_151 rfl) ?_)
                  exact pt_d (pt_iret gx133_153 ⟨_, rfl, by rw [h23]; exact H⟩)
                · have H := H.2 e26
                  refine pt_d (pt_1 (fun n d => r_aloadn gx133_147 rfl) ?_)
                  refine pt_d (pt_virt (as := []) (r := []) gx133_148 rfl (show zmt[126]? = some zM126 from rfl) rfl rfl rfl rfl (c_126 S25) (kqN (fun h_27 P27 => ?_)))
                  have S27 := P27.1
                  have H := H h_27 P27
                  show Pt _ _ _ 151 _ [] _ _
                  refine pt_d (pt_1 (fun n d => r_iload gx133_151 rfl) ?_)
                  exact pt_d (pt_iret gx133_153 ⟨_, rfl, by rw [h23]; exact H⟩)
              · have H := H.2 e20
                refine pt_d (pt_1 (fun n d => r_aloadn gx133_123 rfl) ?_)
                refine pt_d (pt_virt (as := []) (r := []) gx133_124 rfl (show zmt[126]? = some zM126 from rfl) rfl rfl rfl rfl (c_126 S19) (kqN (fun h_28 P28 => ?_)))
                have S28 := P28.1
                have H := H h_28 P28
                show Pt _ _ _ 127 _ [] _ _
                refine pt_d (pt_iconst gx133_127 (fun v29 h29 => ?_))
                exact pt_d (pt_iret gx133_128 ⟨_, rfl, by rw [h29]; exact H⟩)
            · have H := H.2 e17
              refine pt_d (pt_1 (fun n d => r_aloadn gx133_105 rfl) ?_)
              refine pt_d (pt_1 (fun n d => r_iloadn gx133_106 rfl) ?_)
              refine pt_d (pt_iconst gx133_107 (fun v30 h30 => ?_))
              refine pt_d (pt_iadd gx133_108 z1 h30 (fun v31 h31 => ?_))
              obtain ⟨pr32, H⟩ := H
              refine pt_d (pt_virt (as := [.int v31]) (r := []) gx133_109 rfl (show zmt[133]? = some zM133 from rfl) rfl rfl rfl rfl (K133 S16 h31 pr32) (kqI (fun v32 y32 h_32 h32 P32 => ?_)))
              have S32 := P32.1
              have H := H y32 h_32 P32
              show Pt _ _ _ 112 _ [.int v32] _ _
              refine pt_d (pt_ineg gx133_112 h32 (fun v33 h33 => ?_))
              exact pt_d (pt_iret gx133_113 ⟨_, rfl, by rw [h33]; exact H⟩)
          · have H := H.2 e14
            refine pt_d (pt_1 (fun n d => r_aloadn gx133_77 rfl) ?_)
            refine pt_d (pt_1 (fun n d => r_iloadn gx133_78 rfl) ?_)
            refine pt_d (pt_iconst gx133_79 (fun v34 h34 => ?_))
            refine pt_d (pt_iadd gx133_80 z1 h34 (fun v35 h35 => ?_))
            obtain ⟨pr36, H⟩ := H
            refine pt_d (pt_virt (as := [.int v35]) (r := []) gx133_81 rfl (show zmt[133]? = some zM133 from rfl) rfl rfl rfl rfl (K133 S13 h35 pr36) (kqI (fun v36 y36 h_36 h36 P36 => ?_)))
            have S36 := P36.1
            have H := H y36 h_36 P36
            show Pt _ _ _ 84 _ [.int v36] _ _
            refine pt_d (pt_if_ne gx133_84 h36 (fun e37 => ?_) (fun e37 => ?_))
            · have H := H.1 e37
              refine pt_d (pt_iconst gx133_91 (fun v38 h38 => ?_))
              refine pt_d (pt_stat (as := [.int v38]) (r := []) gx133_92 rfl (show zmt[127]? = some zM127 from rfl) rfl rfl rfl rfl (c_127 S36 h38) (kqP (fun v39 h39 => ?_)))
              show Pt _ _ _ 95 _ [.int v39] _ _
              exact pt_d (pt_iret gx133_95 ⟨_, rfl, by rw [h39]; exact H⟩)
            · have H := H.2 e37
              refine pt_d (pt_iconst gx133_87 (fun v40 h40 => ?_))
              refine pt_d (pt_1 (fun n d => r_goto gx133_88) ?_)
              refine pt_d (pt_stat (as := [.int v40]) (r := []) gx133_92 rfl (show zmt[127]? = some zM127 from rfl) rfl rfl rfl rfl (c_127 S36 h40) (kqP (fun v41 h41 => ?_)))
              show Pt _ _ _ 95 _ [.int v41] _ _
              exact pt_d (pt_iret gx133_95 ⟨_, rfl, by rw [h41]; exact H⟩)
        · have H := H.2 e11
          refine pt_d (pt_1 (fun n d => r_aloadn gx133_62 rfl) ?_)
          refine pt_d (pt_virt (as := []) (r := []) gx133_63 rfl (show zmt[126]? = some zM126 from rfl) rfl rfl rfl rfl (c_126 S) (kqN (fun h_42 P42 => ?_)))
          have S42 := P42.1
          have H := H h_42 P42
          show Pt _ _ _ 66 _ [] _ _
          refine pt_d (pt_iconst gx133_66 (fun v43 h43 => ?_))
          exact pt_d (pt_iret gx133_67 ⟨_, rfl, by rw [h43]; exact H⟩)
      · have H := H.2 e9
        refine pt_d (pt_1 (fun n d => r_aloadn gx133_39 rfl) ?_)
        refine pt_d (pt_1 (fun n d => r_dup gx133_40 rfl) ?_)
        refine pt_d (pt_getI (B := 11) gx133_41 S (fun v44 h44 => ?_))
        refine pt_d (pt_iconst gx133_44 (fun v45 h45 => ?_))
        refine pt_d (pt_iadd gx133_45 h44 h45 (fun v46 h46 => ?_))
        refine pt_d (pt_putI (B := 11) gx133_46 S h46 (fun h_47 S47 e47 => ?_))
        refine pt_d (pt_1 (fun n d => r_aloadn gx133_49 rfl) ?_)
        have H := H h_47 S47 (by rw [e47])
        refine pt_d (pt_getD (B := 13) gx133_50 S47 (fun k48 => ?_) (fun q48 k48 => ?_))
        · have H := H.1 k48
          refine pt_d (pt_1 (fun n d => r_iloadn gx133_53 rfl) ?_)
          exact pt_d (pt_ialdN gx133_54)
        · have H := H.2 q48 k48
          refine pt_d (pt_1 (fun n d => r_iloadn gx133_53 rfl) ?_)
          refine pt_d (pt_ialdD gx133_54 h7 (fun v50 p50 h50 => ?_))
          have H := H p50
          exact pt_d (pt_iret gx133_55 ⟨_, rfl, by rw [h50]; exact H⟩)
    · have H := H.2 e5
      refine pt_d (pt_iconst gx133_22 (fun v51 h51 => ?_))
      refine pt_d (pt_1 (fun n d => r_goto gx133_23) ?_)
      refine pt_d (pt_1 (fun n d => r_istoren (L' := [some (.ref 33), some (.int x1), some (.int v1), some (.int v51), none]) gx133_33 rfl rfl) ?_)
      refine pt_d (pt_1 (fun n d => r_iloadn gx133_34 rfl) ?_)
      refine pt_d (pt_iconst gx133_35 (fun v52 h52 => ?_))
      refine pt_d (pt_icmp_eq gx133_36 h51 h52 (fun e53 => ?_) (fun e53 => absurd e53 (by decide)))
      refine pt_d (pt_1 (fun n d => r_iloadn gx133_56 rfl) ?_)
      refine pt_d (pt_bipush gx133_57 (fun v54 h54 => ?_))
      refine pt_d (pt_icmp_lt gx133_59 z1 h54 (fun e55 => ?_) (fun e55 => ?_))
      · have H := H.1 e55
        refine pt_d (pt_1 (fun n d => r_aloadn gx133_68 rfl) ?_)
        refine pt_d (pt_bipush gx133_69 (fun v56 h56 => ?_))
        obtain ⟨pr57, H⟩ := H
        refine pt_d (pt_virt (as := [.int v56]) (r := []) gx133_71 rfl (show zmt[125]? = some zM125 from rfl) rfl rfl rfl rfl (c_125 S h56 pr57) (kqI (fun v57 y57 h_57 h57 P57 => ?_)))
        have S57 := P57.1
        have H := H y57 h_57 P57
        show Pt _ _ _ 74 _ [.int v57] _ _
        refine pt_d (pt_if_eq gx133_74 h57 (fun e58 => ?_) (fun e58 => ?_))
        · have H := H.1 e58
          refine pt_d (pt_1 (fun n d => r_aloadn gx133_96 rfl) ?_)
          refine pt_d (pt_bipush gx133_97 (fun v59 h59 => ?_))
          obtain ⟨pr60, H⟩ := H
          refine pt_d (pt_virt (as := [.int v59]) (r := []) gx133_99 rfl (show zmt[125]? = some zM125 from rfl) rfl rfl rfl rfl (c_125 S57 h59 pr60) (kqI (fun v60 y60 h_60 h60 P60 => ?_)))
          have S60 := P60.1
          have H := H y60 h_60 P60
          show Pt _ _ _ 102 _ [.int v60] _ _
          refine pt_d (pt_if_eq gx133_102 h60 (fun e61 => ?_) (fun e61 => ?_))
          · have H := H.1 e61
            refine pt_d (pt_1 (fun n d => r_aloadn gx133_114 rfl) ?_)
            refine pt_d (pt_bipush gx133_115 (fun v62 h62 => ?_))
            obtain ⟨pr63, H⟩ := H
            refine pt_d (pt_virt (as := [.int v62]) (r := []) gx133_117 rfl (show zmt[125]? = some zM125 from rfl) rfl rfl rfl rfl (c_125 S60 h62 pr63) (kqI (fun v63 y63 h_63 h63 P63 => ?_)))
            have S63 := P63.1
            have H := H y63 h_63 P63
            show Pt _ _ _ 120 _ [.int v63] _ _
            refine pt_d (pt_if_ne gx133_120 h63 (fun e64 => ?_) (fun e64 => ?_))
            · have H := H.1 e64
              refine pt_d (pt_1 (fun n d => r_aloadn gx133_129 rfl) ?_)
              refine pt_d (pt_1 (fun n d => r_iloadn gx133_130 rfl) ?_)
              refine pt_d (pt_iconst gx133_131 (fun v65 h65 => ?_))
              refine pt_d (pt_iadd gx133_132 z1 h65 (fun v66 h66 => ?_))
              obtain ⟨pr67, H⟩ := H
              refine pt_d (pt_virt (as := [.int v66]) (r := []) gx133_133 rfl (show zmt[128]? = some zM128 from rfl) rfl rfl rfl rfl (K128 S63 h66 pr67) (kqI (fun v67 y67 h_67 h67 P67 => ?_)))
              have S67 := P67.1
              have H := H y67 h_67 P67
              show Pt _ _ _ 136 _ [.int v67] _ _
              refine pt_d (pt_1 (fun n d => r_istore (L' := [some (.ref 33), some (.int x1), some (.int v1), some (.int v51), some (.int v67)]) gx133_136 rfl rfl) ?_)
              refine pt_d (pt_1 (fun n d => r_aloadn gx133_138 rfl) ?_)
              refine pt_d (pt_bipush gx133_139 (fun v68 h68 => ?_))
              obtain ⟨pr69, H⟩ := H
              refine pt_d (pt_virt (as := [.int v68]) (r := []) gx133_141 rfl (show zmt[125]? = some zM125 from rfl) rfl rfl rfl rfl (c_125 S67 h68 pr69) (kqI (fun v69 y69 h_69 h69 P69 => ?_)))
              have S69 := P69.1
              have H := H y69 h_69 P69
              show Pt _ _ _ 144 _ [.int v69] _ _
              refine pt_d (pt_if_ne gx133_144 h69 (fun e70 => ?_) (fun e70 => ?_))
              · have H := H.1 e70
                refine pt_d (pt_1 (fun n d => r_iload gx133_151 rfl) ?_)
                exact pt_d (pt_iret gx133_153 ⟨_, rfl, by rw [h67]; exact H⟩)
              · have H := H.2 e70
                refine pt_d (pt_1 (fun n d => r_aloadn gx133_147 rfl) ?_)
                refine pt_d (pt_virt (as := []) (r := []) gx133_148 rfl (show zmt[126]? = some zM126 from rfl) rfl rfl rfl rfl (c_126 S69) (kqN (fun h_71 P71 => ?_)))
                have S71 := P71.1
                have H := H h_71 P71
                show Pt _ _ _ 151 _ [] _ _
                refine pt_d (pt_1 (fun n d => r_iload gx133_151 rfl) ?_)
                exact pt_d (pt_iret gx133_153 ⟨_, rfl, by rw [h67]; exact H⟩)
            · have H := H.2 e64
              refine pt_d (pt_1 (fun n d => r_aloadn gx133_123 rfl) ?_)
              refine pt_d (pt_virt (as := []) (r := []) gx133_124 rfl (show zmt[126]? = some zM126 from rfl) rfl rfl rfl rfl (c_126 S63) (kqN (fun h_72 P72 => ?_)))
              have S72 := P72.1
              have H := H h_72 P72
              show Pt _ _ _ 127 _ [] _ _
              refine pt_d (pt_iconst gx133_127 (fun v73 h73 => ?_))
              exact pt_d (pt_iret gx133_128 ⟨_, rfl, by rw [h73]; exact H⟩)
          · have H := H.2 e61
            refine pt_d (pt_1 (fun n d => r_aloadn gx133_105 rfl) ?_)
            refine pt_d (pt_1 (fun n d => r_iloadn gx133_106 rfl) ?_)
            refine pt_d (pt_iconst gx133_107 (fun v74 h74 => ?_))
            refine pt_d (pt_iadd gx133_108 z1 h74 (fun v75 h75 => ?_))
            obtain ⟨pr76, H⟩ := H
            refine pt_d (pt_virt (as := [.int v75]) (r := []) gx133_109 rfl (show zmt[133]? = some zM133 from rfl) rfl rfl rfl rfl (K133 S60 h75 pr76) (kqI (fun v76 y76 h_76 h76 P76 => ?_)))
            have S76 := P76.1
            have H := H y76 h_76 P76
            show Pt _ _ _ 112 _ [.int v76] _ _
            refine pt_d (pt_ineg gx133_112 h76 (fun v77 h77 => ?_))
            exact pt_d (pt_iret gx133_113 ⟨_, rfl, by rw [h77]; exact H⟩)
        · have H := H.2 e58
          refine pt_d (pt_1 (fun n d => r_aloadn gx133_77 rfl) ?_)
          refine pt_d (pt_1 (fun n d => r_iloadn gx133_78 rfl) ?_)
          refine pt_d (pt_iconst gx133_79 (fun v78 h78 => ?_))
          refine pt_d (pt_iadd gx133_80 z1 h78 (fun v79 h79 => ?_))
          obtain ⟨pr80, H⟩ := H
          refine pt_d (pt_virt (as := [.int v79]) (r := []) gx133_81 rfl (show zmt[133]? = some zM133 from rfl) rfl rfl rfl rfl (K133 S57 h79 pr80) (kqI (fun v80 y80 h_80 h80 P80 => ?_)))
          have S80 := P80.1
          have H := H y80 h_80 P80
          show Pt _ _ _ 84 _ [.int v80] _ _
          refine pt_d (pt_if_ne gx133_84 h80 (fun e81 => ?_) (fun e81 => ?_))
          · have H := H.1 e81
            refine pt_d (pt_iconst gx133_91 (fun v82 h82 => ?_))
            refine pt_d (pt_stat (as := [.int v82]) (r := []) gx133_92 rfl (show zmt[127]? = some zM127 from rfl) rfl rfl rfl rfl (c_127 S80 h82) (kqP (fun v83 h83 => ?_)))
            show Pt _ _ _ 95 _ [.int v83] _ _
            exact pt_d (pt_iret gx133_95 ⟨_, rfl, by rw [h83]; exact H⟩)
          · have H := H.2 e81
            refine pt_d (pt_iconst gx133_87 (fun v84 h84 => ?_))
            refine pt_d (pt_1 (fun n d => r_goto gx133_88) ?_)
            refine pt_d (pt_stat (as := [.int v84]) (r := []) gx133_92 rfl (show zmt[127]? = some zM127 from rfl) rfl rfl rfl rfl (c_127 S80 h84) (kqP (fun v85 h85 => ?_)))
            show Pt _ _ _ 95 _ [.int v85] _ _
            exact pt_d (pt_iret gx133_95 ⟨_, rfl, by rw [h85]; exact H⟩)
      · have H := H.2 e55
        refine pt_d (pt_1 (fun n d => r_aloadn gx133_62 rfl) ?_)
        refine pt_d (pt_virt (as := []) (r := []) gx133_63 rfl (show zmt[126]? = some zM126 from rfl) rfl rfl rfl rfl (c_126 S) (kqN (fun h_86 P86 => ?_)))
        have S86 := P86.1
        have H := H h_86 P86
        show Pt _ _ _ 66 _ [] _ _
        refine pt_d (pt_iconst gx133_66 (fun v87 h87 => ?_))
        exact pt_d (pt_iret gx133_67 ⟨_, rfl, by rw [h87]; exact H⟩)
  · have H := H.2 e3
    refine pt_d (pt_1 (fun n d => r_aloadn gx133_12 rfl) ?_)
    obtain ⟨pr88, H⟩ := H
    refine pt_d (pt_virt (as := []) (r := []) gx133_13 rfl (show zmt[135]? = some zM135 from rfl) rfl rfl rfl rfl (c_135v S pr88) (kqI (fun v88 y88 h_88 h88 P88 => ?_)))
    have S88 := P88.1
    have H := H y88 h_88 P88
    show Pt _ _ _ 16 _ [.int v88] _ _
    exact pt_d (pt_iret gx133_16 ⟨_, rfl, by rw [h88]; exact H⟩)
theorem ev_133 {n : Nat} {X : aX} (C : ct133 (n + 1) X) (K0 : vt133 n X) (K8 : vt128 n X) : vt133 (n + 1) X := by
  intro h x1 a1 S z1 hp
  refine pt_q (pt_and (C S z1 hp.1) (show Pt (n + 1) X zM133 0 [some (.ref 33), some (.int x1), none, none, none] [] h (qI (fun r h' => vRes 0 a1 (vw h) r (vw h'))) from ?_)) ?_
  · obtain ⟨⟨I, e12, o0, o1⟩, n13⟩ := hp
    have bJ := I.1
    have bJ2 := I.2.1
    have wo : w32 (a1 + 1) = a1 + 1 := w32_id (by omega) (by omega)
    have dn : ¬ (48 ≤ cSg (vw h) ∧ cSg (vw h) ≤ 57) → isD (cTx (vw h) (vw h 33 11)) = false := by
      intro z
      cases w : isD (cTx (vw h) (vw h 33 11)) with
      | false => rfl
      | true => exact absurd ((cSg_d I e12).mpr w) z
    have rest : isD (cTx (vw h) (vw h 33 11)) = false → nmB (cTx (vw h) (vw h 33 11)) = false → ((a1 < 8 → ((tIn (vw h) ∧ (0 : Int) ≤ 33 ∧ (33 : Int) ≤ 127) ∧ ∀ (y13 : Int) (h_13 : aH), (wS h_13 ∧ R125 (vw h) 33 y13 (vw h_13)) → ((y13 = 0 → ((tIn (vw h_13) ∧ (0 : Int) ≤ 45 ∧ (45 : Int) ≤ 127) ∧ ∀ (y16 : Int) (h_16 : aH), (wS h_16 ∧ R125 (vw h_13) 45 y16 (vw h_16)) → ((y16 = 0 → ((tIn (vw h_16) ∧ (0 : Int) ≤ 40 ∧ (40 : Int) ≤ 127) ∧ ∀ (y19 : Int) (h_19 : aH), (wS h_19 ∧ R125 (vw h_16) 40 y19 (vw h_19)) → ((y19 ≠ 0 → ((cpre (vw h_19) (w32 (a1 + 1)) ∧ vw h_19 33 13 = ((43 : Nat) : Int)) ∧ ∀ (y23 : Int) (h_23 : aH), (wS h_23 ∧ cRes 8 (w32 (a1 + 1)) (vw h_19) (vw h_23) ∧ vRes 8 (w32 (a1 + 1)) (vw h_19) y23 (vw h_23)) → ((tIn (vw h_23) ∧ (0 : Int) ≤ 41 ∧ (41 : Int) ≤ 127) ∧ ∀ (y25 : Int) (h_25 : aH), (wS h_25 ∧ R125 (vw h_23) 41 y25 (vw h_25)) → ((y25 ≠ 0 → vRes 0 a1 (vw h) y23 (vw h_25)) ∧ (y25 = 0 → ∀ (h_27 : aH), (wS h_27 ∧ R126 (vw h_25) (vw h_27)) → vRes 0 a1 (vw h) y23 (vw h_27)))))) ∧ (y19 = 0 → ∀ (h_28 : aH), (wS h_28 ∧ R126 (vw h_19) (vw h_28)) → vRes 0 a1 (vw h) 0 (vw h_28))))) ∧ (y16 ≠ 0 → ((cpre (vw h_16) (w32 (a1 + 1)) ∧ vw h_16 33 13 = ((43 : Nat) : Int)) ∧ ∀ (y32 : Int) (h_32 : aH), (wS h_32 ∧ cRes 0 (w32 (a1 + 1)) (vw h_16) (vw h_32) ∧ vRes 0 (w32 (a1 + 1)) (vw h_16) y32 (vw h_32)) → vRes 0 a1 (vw h) (w32 (-y32)) (vw h_32)))))) ∧ (y13 ≠ 0 → ((cpre (vw h_13) (w32 (a1 + 1)) ∧ vw h_13 33 13 = ((43 : Nat) : Int)) ∧ ∀ (y36 : Int) (h_36 : aH), (wS h_36 ∧ cRes 0 (w32 (a1 + 1)) (vw h_13) (vw h_36) ∧ vRes 0 (w32 (a1 + 1)) (vw h_13) y36 (vw h_36)) → ((y36 ≠ 0 → vRes 0 a1 (vw h) (if (0 : Int) = 0 then 0 else 1) (vw h_36)) ∧ (y36 = 0 → vRes 0 a1 (vw h) (if (1 : Int) = 0 then 0 else 1) (vw h_36)))))))) ∧ (8 ≤ a1 → ∀ (h_42 : aH), (wS h_42 ∧ R126 (vw h) (vw h_42)) → vRes 0 a1 (vw h) 0 (vw h_42))) := by
      intro nd nn
      have d0 : dgEnd (cTx (vw h)) 6 (vw h 33 11) = vw h 33 11 := by
        show (bif isD (cTx (vw h) (vw h 33 11)) then dgEnd (cTx (vw h)) 5 (vw h 33 11 + 1) else vw h 33 11) = _
        rw [nd]
        rfl
      refine ⟨fun lt => ⟨⟨I, by decide, by decide⟩, fun y13 h13 k13' => ⟨fun e13 => ⟨⟨by rw [(tk_0 k13'.2 e13).1]; exact I, by decide, by decide⟩, fun y16 h16 k16 => ?_⟩, fun e13 => ?_⟩⟩, fun ge h42 k42 => v_no (fun q L d => ?_)⟩
      · obtain ⟨v13, n13'⟩ := tk_0 k13'.2 e13
        have r16 : R125 (vw h) 45 y16 (vw h16) := by rw [← v13]; exact k16.2
        refine ⟨fun e16 => ⟨⟨by rw [(tk_0 r16 e16).1]; exact I, by decide, by decide⟩, fun y19 h19 k19 => ?_⟩, fun e16 => ?_⟩
        · obtain ⟨v16, n16⟩ := tk_0 r16 e16
          have r19 : R125 (vw h) 40 y19 (vw h19) := by rw [← v16]; exact k19.2
          refine ⟨fun e19 => ?_, fun e19 h28 k28 => v_no (fun q L d => ?_)⟩
          · obtain ⟨I19, f12, f11⟩ := tk_i I r19 e19
            refine ⟨⟨⟨I19, f12, by rw [wo]; omega, by rw [wo]; omega⟩, (k13 r19).trans n13⟩, fun y23 h23 k23 => ?_⟩
            obtain ⟨I23, j23⟩ := cR_i I19 k23.2.1
            exact ⟨⟨I23, by decide, by decide⟩, fun y25 h25 k25 => ⟨fun e25 => (v_br wo r19 e19 k23.2.2).1 _ k25.2 e25, fun e25 h27 k27 => (v_br wo r19 e19 k23.2.2).2 _ _ k25.2 e25⟩⟩
          · obtain ⟨v19, n19⟩ := tk_0 r19 e19
            rcases ko_x d with ⟨a, -⟩ | ⟨-, n, w', L1, a, -⟩ | ⟨-, n, a, -⟩ | ⟨-, -, a, -⟩
            · rw [nn] at a
              cases a
            · rcases a with ⟨a, -⟩ | ⟨a, -⟩
              · exact n13' e12 a
              · exact n16 e12 a
            · exact n19 e12 a
            · exact a (Or.inl d0)
        · obtain ⟨I4, f12, f11⟩ := tk_i I r16 e16
          exact ⟨⟨⟨I4, f12, by rw [wo]; omega, by rw [wo]; omega⟩, (k13 r16).trans n13⟩, fun y32 h32 k32 => v_un (Or.inr ⟨rfl, rfl⟩) wo r16 e16 k32.2.2 (fun N st => rfl)⟩
      · obtain ⟨I4, f12, f11⟩ := tk_i I k13'.2 e13
        refine ⟨⟨⟨I4, f12, by rw [wo]; omega, by rw [wo]; omega⟩, (k13 k13'.2).trans n13⟩, fun y36 h36 k36 => ⟨fun z => v_un (Or.inl ⟨rfl, rfl⟩) wo k13'.2 e13 k36.2.2 (fun N st => ?_), fun z => v_un (Or.inl ⟨rfl, rfl⟩) wo k13'.2 e13 k36.2.2 (fun N st => ?_)⟩⟩
        · show bI (y36 = 0) :: st = _
          rw [bI_f z]
          rfl
        · show bI (y36 = 0) :: st = _
          rw [bI_t z]
          rfl
      · rcases ko_x d with ⟨a, -⟩ | ⟨-, n, -⟩ | ⟨-, n, -⟩ | ⟨-, -, a, -⟩
        · rw [nn] at a
          cases a
        · omega
        · omega
        · exact a (Or.inl d0)
    obtain ⟨m1, m2⟩ := cSg_m I e12
    refine g133_0 S z1 K0 K8 ⟨fun nd => ⟨fun ne => ⟨fun ix => rest (dn nd) ((m2 ne).mp ix), fun ix g S2 eg => ⟨fun _ => trivial, fun q48 eq _ => ?_⟩⟩, fun eq => rest (dn nd) (m1 eq)⟩, fun dd => ⟨⟨I, e12⟩, fun y h88 k => ?_⟩⟩
    · have nm : nmB (cTx (vw h) (vw h 33 11)) = true := by
        cases w : nmB (cTx (vw h) (vw h 33 11)) with
        | true => rfl
        | false => exact absurd ((m2 ne).mpr w) ix
      have lt : vw h 33 11 < vw h 33 10 := cT_lt I (fun w => by rw [w] at nm; cases nm)
      rw [w32_id (by omega) (by omega)] at eg
      have rg := nmB_r nm
      have q43 : q48 = 43 := by
        rw [eg, up_j (by decide), n13] at eq
        omega
      have ei : iIx (bChr (cSg (vw h))) = nmV (cTx (vw h) (vw h 33 11)) := by
        rw [(cSg_v I e12 rg.1).1]
        have k := nmI ⟨(cTx (vw h) (vw h 33 11)).toNat, by omega⟩
        rw [show (((⟨(cTx (vw h) (vw h 33 11)).toNat, by omega⟩ : Fin 128).val : Nat) : Int) = cTx (vw h) (vw h 33 11) by show (((cTx (vw h) (vw h 33 11)).toNat : Nat) : Int) = _; omega] at k
        exact k nm
      intro q L d
      rcases ko_x d with ⟨-, rfl, rfl⟩ | ⟨a, -⟩ | ⟨a, -⟩ | ⟨a, -⟩
      · refine ⟨eg, fun st => ?_⟩
        show vw h 43 (nmV (cTx (vw h) (vw h 33 11))) :: st = _
        rw [q43, ei, eg, up_c (by decide)]
      · rw [nm] at a
        cases a
      · rw [nm] at a
        cases a
      · rw [nm] at a
        cases a
    · have d1 := (cSg_d I e12).mp dd
      have pos : 48 ≤ cTx (vw h) (vw h 33 11) ∧ cTx (vw h) (vw h 33 11) ≤ 57 := of_decide_eq_true d1
      intro q L d
      rcases ko_x d with ⟨a, -⟩ | ⟨-, n, w', L1, a, -⟩ | ⟨-, n, a, -⟩ | ⟨-, -, -, rfl, rfl⟩
      · exfalso
        unfold nmB at a
        simp only [Bool.or_eq_true, beq_iff_eq] at a
        omega
      · omega
      · omega
      · refine ⟨k.2.1, fun st => ?_⟩
        rw [k.2.2]
        rfl
  · rintro v h' ⟨⟨x, rfl, p1, p2⟩, ⟨x', ev, p3⟩⟩
    exact ⟨x', ev, p1, p2, p3⟩
theorem v_gram (X : aX) : ∀ n : Nat, vt133 n X ∧ (vt132 n X ∧ vl132 n X) ∧ (vt131 n X ∧ vl131 n X) ∧ vt130 n X ∧ (vt129 n X ∧ vl129 n X) ∧ vt128 n X ∧ vl128 n X := by
  intro n
  induction n with
  | zero => exact ⟨fun _ _ _ => pt_z, ⟨fun _ _ _ => pt_z, fun _ _ _ _ _ _ _ _ _ _ => pt_z⟩, ⟨fun _ _ _ => pt_z, fun _ _ _ _ _ _ _ _ _ _ => pt_z⟩, fun _ _ _ => pt_z, ⟨fun _ _ _ => pt_z, fun _ _ _ _ _ _ _ _ _ _ => pt_z⟩, fun _ _ _ => pt_z, fun _ _ _ _ _ _ _ _ _ _ => pt_z⟩
  | succ n ih =>
    obtain ⟨i1, ⟨i2, i3⟩, ⟨i4, i5⟩, i6, ⟨i7, i8⟩, i9, i10⟩ := ih
    obtain ⟨c1, ⟨c2, -⟩, ⟨c4, -⟩, c6, ⟨c7, -⟩, c9, -⟩ := c_gram X (n + 1)
    exact ⟨ev_133 c1 i1 i9, ⟨ev_132 c2 i1 i3, fv_132 i1 i3⟩, ⟨ev_131 c4 i2 i5, fv_131 i2 i5⟩, ev_130 c6 i4, ⟨ev_129 c7 i6 i8, fv_129 i6 i8⟩, ev_128 c9 i7 i10, fv_128 i7 i10⟩


-- ===== what is known of a farm =====
theorem f332_0 {n : Nat} {X : aX} {h : aH} {P : aH → Prop} {x1 : Int32} {a1 : Int} (S : wS h) (z1 : x1.toInt = a1) (H : (∀ (w2 : Int32) (w3 : Int32), w2.toInt = 0 → w3.toInt = 8 → Pt n X zM332 5 [some (.ref 44), some (.int x1), some (.int w2), some (.int w3)] [] h (qN P))) : Pt (n + 1) X zM332 0 [some (.ref 44), some (.int x1), none, none] [] h (qN P) := by
  refine pt_iconst gx332_0 (fun v1 h1 => ?_)
  refine pt_d (pt_1 (fun n d => r_istoren (L' := [some (.ref 44), some (.int x1), some (.int v1), none]) gx332_1 rfl rfl) ?_)
  refine pt_d (pt_1 (fun n d => r_aloadn gx332_2 rfl) ?_)
  refine pt_d (pt_alen (N' := 8) gx332_3 S tl_44 (fun v2 h2 => ?_))
  refine pt_d (pt_1 (fun n d => r_istoren (L' := [some (.ref 44), some (.int x1), some (.int v1), some (.int v2)]) gx332_4 rfl rfl) ?_)
  exact H v1 v2 h1 h2
theorem f332_5 {n : Nat} {X : aX} {h : aH} {P : aH → Prop} {x1 x2 x3 : Int32} {a1 a2 a3 : Int} (S : wS h) (z1 : x1.toInt = a1) (z2 : x2.toInt = a2) (z3 : x3.toInt = a3) (H : ((a3 ≤ a2 → P h) ∧ (a2 < a3 → (0 ≤ a2 → a2 < 8 → ∀ h_2 : aH, wS h_2 → vw h_2 = up (vw h) 44 a2 a1 → (∀ (w2 : Int32), w2.toInt = w32 (a2 + 1) → Pt n X zM332 5 [some (.ref 44), some (.int x1), some (.int w2), some (.int x3)] [] h_2 (qN P)))))) : Pt (n + 1) X zM332 5 [some (.ref 44), some (.int x1), some (.int x2), some (.int x3)] [] h (qN P) := by
  refine pt_1 (fun n d => r_iloadn gx332_5 rfl) ?_
  refine pt_d (pt_1 (fun n d => r_iloadn gx332_6 rfl) ?_)
  refine pt_d (pt_icmp_ge gx332_7 z2 z3 (fun e1 => ?_) (fun e1 => ?_))
  · have H := H.1 e1
    exact pt_d (pt_vret gx332_20 ⟨rfl, H⟩)
  · have H := H.2 e1
    refine pt_d (pt_1 (fun n d => r_aloadn gx332_10 rfl) ?_)
    refine pt_d (pt_1 (fun n d => r_iloadn gx332_11 rfl) ?_)
    refine pt_d (pt_1 (fun n d => r_iloadn gx332_12 rfl) ?_)
    refine pt_d (pt_iast (N' := 8) gx332_13 S tl_44 z2 z1 (fun h_2 S2 p2 q2 e2 => ?_))
    have H := H p2 q2
    refine pt_d (pt_iinc (c := 1) gx332_14 rfl z2 (fun v3 h3 => ?_))
    show Pt _ _ _ _ [some (.ref 44), some (.int x1), some (.int v3), some (.int x3)] [] _ _
    refine pt_d (pt_1 (fun n d => r_goto gx332_17) ?_)
    have H := H h_2 S2 (by rw [e2])
    exact H v3 h3
def R332 (V : vS) (a : Int) (W : vS) : Prop := (∀ (c : Nat) j, c ≠ 44 → W c j = V c j) ∧ ∀ j, 0 ≤ j → j < 8 → W 44 j = a
theorem l_332f {X : aX} {V : vS} {a : Int} : ∀ (n : Nat) (h : aH) (x1 x2 x3 : Int32) (k : Nat), wS h → x1.toInt = a → x2.toInt = (k : Int) → x3.toInt = 8 → k ≤ 8 → (∀ (c : Nat) j, c ≠ 44 → vw h c j = V c j) → (∀ j, 0 ≤ j → j < (k : Int) → vw h 44 j = a) → Pt n X zM332 5 [some (.ref 44), some (.int x1), some (.int x2), some (.int x3)] [] h (qN (fun h' => wS h' ∧ R332 V a (vw h'))) := by
  intro n
  induction n with
  | zero => intros; exact pt_z
  | succ n ih =>
    intro h x1 x2 x3 k S h1 h2 h3 hk F A
    refine f332_5 S h1 h2 h3 ⟨fun e => ⟨S, F, fun j a b => A j a (by omega)⟩, fun e _ _ g S2 eg w g2 => ?_⟩
    replace g2 := w_1 g2 (by omega) (by omega)
    refine ih g x1 w x3 (k + 1) S2 h1 (by omega) h3 (by omega) (fun c j z => by rw [eg, up_c z]; exact F c j z) (fun j a b => ?_)
    rw [eg, up_p]
    by_cases y : j = (k : Int)
    · rw [if_pos y]
    · rw [if_neg y]
      exact A j a (by omega)
theorem c_332f {n : Nat} {X : aX} {h : aH} {x1 : Int32} {a1 : Int} (S : wS h) (z1 : x1.toInt = a1) : Pt n X zM332 0 [some (.ref 44), some (.int x1), none, none] [] h (qN (fun h' => wS h' ∧ R332 (vw h) a1 (vw h'))) :=
  pt_d (f332_0 S z1 (fun w2 w3 g2 g3 => l_332f n h x1 w2 w3 0 S z1 g2 g3 (Nat.zero_le _) (fun _ _ _ => rfl) (fun j a b => by omega)))

theorem d3_0 {n : Nat} {X : aX} {h : aH} {P : Int → aH → Prop} {x2 : Int32} {a2 : Int} {q1 : Nat} (S : wS h) (z2 : x2.toInt = a2) (H : ∀ (h_4 : aH), (wS h_4 ∧ R332 (vw h) 0 (vw h_4)) → (∀ (w3 : Int32) (w4 : Int32), w3.toInt = 0 → w4.toInt = 0 → Pt n X zM3 13 [some (.ref 41), some (.ref q1), some (.int x2), some (.int w3), some (.int w4)] [] h_4 (qI P))) : Pt (n + 1) X zM3 0 [some (.ref 41), some (.ref q1), some (.int x2), none, none] [] h (qI P) := by
  refine pt_iconst gx3_0 (fun v1 h1 => ?_)
  refine pt_d (pt_1 (fun n d => r_istoren (L' := [some (.ref 41), some (.ref q1), some (.int x2), some (.int v1), none]) gx3_1 rfl rfl) ?_)
  refine pt_d (pt_1 (fun n d => r_aloadn gx3_2 rfl) ?_)
  refine pt_d (pt_getR gx3_3 S tr_41_5 ?_)
  refine pt_d (pt_iconst gx3_6 (fun v3 h3 => ?_))
  refine pt_d (pt_stat (as := [.ref 44, .int v3]) (r := []) gx3_7 rfl (show zmt[332]? = some zM332 from rfl) rfl rfl rfl rfl (c_332f S h3) (kqN (fun h_4 P4 => ?_)))
  have S4 := P4.1
  have H := H h_4 P4
  show Pt _ _ _ 10 _ [] _ _
  refine pt_d (pt_iconst gx3_10 (fun v5 h5 => ?_))
  refine pt_d (pt_1 (fun n d => r_istore (L' := [some (.ref 41), some (.ref q1), some (.int x2), some (.int v1), some (.int v5)]) gx3_11 rfl rfl) ?_)
  exact H v1 v5 h1 h5
theorem d3_13 {n : Nat} {X : aX} {h : aH} {P : Int → aH → Prop} {x2 x3 x4 : Int32} {a2 a3 a4 : Int} {q1 : Nat} (S : wS h) (z2 : x2.toInt = a2) (z3 : x3.toInt = a3) (z4 : x4.toInt = a4) (H : ((vw h q1 5 ≤ a4 → P a3 h) ∧ (a4 < vw h q1 5 → ((vw h q1 1 = ((16 : Nat) : Int) ∧ vw h q1 6 = ((q1 + 1 : Nat) : Int)) ∧ (((vw h) 17 ((vw h) (q1 + 1) a4) ≠ a2 → (∀ (w4 : Int32), w4.toInt = w32 (a4 + 1) → Pt n X zM3 13 [some (.ref 41), some (.ref q1), some (.int x2), some (.int x3), some (.int w4)] [] h (qI P))) ∧ ((vw h) 17 ((vw h) (q1 + 1) a4) = a2 → ((vw h) q1 6 = (((q1 + 1) : Nat) : Int) ∧ (0 ≤ a4 → (0 ≤ vw h (q1 + 1) a4 → vw h (q1 + 1) a4 < 300 → (0 ≤ vw h 19 (vw h (q1 + 1) a4) → vw h 19 (vw h (q1 + 1) a4) < 8 → ((vw h) q1 7 = (((q1 + 2) : Nat) : Int) ∧ (0 ≤ a4 → ∀ h_16 : aH, wS h_16 → vw h_16 = up (vw h) 44 (vw h 19 (vw h (q1 + 1) a4)) (w32 ((vw h 44 (vw h 19 (vw h (q1 + 1) a4))) + (vw h (q1 + 2) a4))) → ((vw h_16 q1 1 = ((16 : Nat) : Int) ∧ vw h_16 q1 6 = ((q1 + 1 : Nat) : Int)) ∧ (0 ≤ (vw h_16) 18 ((vw h_16) (q1 + 1) a4) → (vw h_16) 18 ((vw h_16) (q1 + 1) a4) < 150 → ((vw h_16 2 ((vw h_16) 18 ((vw h_16) (q1 + 1) a4)) ≠ 5 → (∀ (w3 : Int32) (w4 : Int32), w3.toInt = w32 (a3 + 0) → w4.toInt = w32 (a4 + 1) → Pt n X zM3 13 [some (.ref 41), some (.ref q1), some (.int x2), some (.int w3), some (.int w4)] [] h_16 (qI P))) ∧ (vw h_16 2 ((vw h_16) 18 ((vw h_16) (q1 + 1) a4)) = 5 → ((vw h_16) q1 7 = (((q1 + 2) : Nat) : Int) ∧ (0 ≤ a4 → (∀ (w3 : Int32) (w4 : Int32), w3.toInt = w32 (a3 + (vw h_16 (q1 + 2) a4)) → w4.toInt = w32 (a4 + 1) → Pt n X zM3 13 [some (.ref 41), some (.ref q1), some (.int x2), some (.int w3), some (.int w4)] [] h_16 (qI P)))))))))))))))))))) : Pt (n + 1) X zM3 13 [some (.ref 41), some (.ref q1), some (.int x2), some (.int x3), some (.int x4)] [] h (qI P) := by
  refine pt_1 (fun n d => r_iload gx3_13 rfl) ?_
  refine pt_d (pt_1 (fun n d => r_aloadn gx3_15 rfl) ?_)
  refine pt_d (pt_getI (B := 5) gx3_16 S (fun v1 h1 => ?_))
  refine pt_d (pt_icmp_ge gx3_19 z4 h1 (fun e2 => ?_) (fun e2 => ?_))
  · have H := H.1 e2
    refine pt_d (pt_1 (fun n d => r_iloadn gx3_100 rfl) ?_)
    exact pt_d (pt_iret gx3_101 ⟨_, rfl, by rw [z3]; exact H⟩)
  · have H := H.2 e2
    refine pt_d (pt_1 (fun n d => r_aloadn gx3_22 rfl) ?_)
    refine pt_d (pt_1 (fun n d => r_iload gx3_23 rfl) ?_)
    obtain ⟨pr3, H⟩ := H
    refine pt_d (pt_virt (as := [.int x4]) (r := []) gx3_25 rfl (show zmt[100]? = some zM100 from rfl) rfl rfl rfl rfl (c_100 S z4 pr3) (kqP (fun v3 h3 => ?_)))
    show Pt _ _ _ 28 _ [.int v3] _ _
    refine pt_d (pt_1 (fun n d => r_iloadn gx3_28 rfl) ?_)
    refine pt_d (pt_icmp_ne gx3_29 h3 z2 (fun e4 => ?_) (fun e4 => ?_))
    · have H := H.1 e4
      refine pt_d (pt_iinc (c := 1) gx3_94 rfl z4 (fun v5 h5 => ?_))
      show Pt _ _ _ _ [some (.ref 41), some (.ref q1), some (.int x2), some (.int x3), some (.int v5)] [] _ _
      refine pt_d (pt_1 (fun n d => r_goto gx3_97) ?_)
      exact H v5 h5
    · have H := H.2 e4
      refine pt_d (pt_1 (fun n d => r_aloadn gx3_32 rfl) ?_)
      refine pt_d (pt_getR gx3_33 S tr_41_5 ?_)
      refine pt_d (pt_1 (fun n d => r_aloadn gx3_36 rfl) ?_)
      refine pt_d (pt_getR gx3_37 S tr_41_1 ?_)
      refine pt_d (pt_getR gx3_40 S tr_16_6 ?_)
      refine pt_d (pt_1 (fun n d => r_aloadn gx3_43 rfl) ?_)
      obtain ⟨pr9, H⟩ := H
      refine pt_d (pt_getK (B := 6) gx3_44 S (pr9) ?_)
      refine pt_d (pt_1 (fun n d => r_iload gx3_47 rfl) ?_)
      refine pt_d (pt_ialdD gx3_49 z4 (fun v10 p10 h10 => ?_))
      have H := H p10
      refine pt_d (pt_iald (N' := 300) gx3_50 S tl_19 h10 (fun v11 p11 q11 h11 => ?_))
      have H := H p11 q11
      refine pt_d (pt_1 (fun n d => r_dup2 gx3_51 rfl) ?_)
      refine pt_d (pt_iald (N' := 8) gx3_52 S tl_44 h11 (fun v12 p12 q12 h12 => ?_))
      have H := H p12 q12
      refine pt_d (pt_1 (fun n d => r_aloadn gx3_53 rfl) ?_)
      obtain ⟨pr13, H⟩ := H
      refine pt_d (pt_getK (B := 7) gx3_54 S (pr13) ?_)
      refine pt_d (pt_1 (fun n d => r_iload gx3_57 rfl) ?_)
      refine pt_d (pt_ialdD gx3_59 z4 (fun v14 p14 h14 => ?_))
      have H := H p14
      refine pt_d (pt_iadd gx3_60 h12 h14 (fun v15 h15 => ?_))
      refine pt_d (pt_iast (N' := 8) gx3_61 S tl_44 h11 h15 (fun h_16 S16 p16 q16 e16 => ?_))
      refine pt_d (pt_1 (fun n d => r_iloadn gx3_62 rfl) ?_)
      refine pt_d (pt_1 (fun n d => r_aloadn gx3_63 rfl) ?_)
      refine pt_d (pt_getR gx3_64 S16 tr_41_0 ?_)
      refine pt_d (pt_getR gx3_67 S16 tr_1_7 ?_)
      refine pt_d (pt_1 (fun n d => r_aloadn gx3_70 rfl) ?_)
      refine pt_d (pt_1 (fun n d => r_iload gx3_71 rfl) ?_)
      have H := H h_16 S16 (by rw [e16])
      obtain ⟨pr19, H⟩ := H
      refine pt_d (pt_virt (as := [.int x4]) (r := [.ref 2, .int x3]) gx3_73 rfl (show zmt[101]? = some zM101 from rfl) rfl rfl rfl rfl (c_101 S16 z4 pr19) (kqP (fun v19 h19 => ?_)))
      show Pt _ _ _ 76 _ [.int v19, .ref 2, .int x3] _ _
      refine pt_d (pt_iald (N' := 150) gx3_76 S16 tl_2 h19 (fun v20 p20 q20 h20 => ?_))
      have H := H p20 q20
      refine pt_d (pt_iconst gx3_77 (fun v21 h21 => ?_))
      refine pt_d (pt_icmp_ne gx3_78 h20 h21 (fun e22 => ?_) (fun e22 => ?_))
      · have H := H.1 e22
        refine pt_d (pt_iconst gx3_91 (fun v23 h23 => ?_))
        refine pt_d (pt_iadd gx3_92 z3 h23 (fun v24 h24 => ?_))
        refine pt_d (pt_1 (fun n d => r_istoren (L' := [some (.ref 41), some (.ref q1), some (.int x2), some (.int v24), some (.int x4)]) gx3_93 rfl rfl) ?_)
        refine pt_d (pt_iinc (c := 1) gx3_94 rfl z4 (fun v25 h25 => ?_))
        show Pt _ _ _ _ [some (.ref 41), some (.ref q1), some (.int x2), some (.int v24), some (.int v25)] [] _ _
        refine pt_d (pt_1 (fun n d => r_goto gx3_97) ?_)
        exact H v24 v25 h24 h25
      · have H := H.2 e22
        refine pt_d (pt_1 (fun n d => r_aloadn gx3_81 rfl) ?_)
        obtain ⟨pr26, H⟩ := H
        refine pt_d (pt_getK (B := 7) gx3_82 S16 (pr26) ?_)
        refine pt_d (pt_1 (fun n d => r_iload gx3_85 rfl) ?_)
        refine pt_d (pt_ialdD gx3_87 z4 (fun v27 p27 h27 => ?_))
        have H := H p27
        refine pt_d (pt_1 (fun n d => r_goto gx3_88) ?_)
        refine pt_d (pt_iadd gx3_92 z3 h27 (fun v28 h28 => ?_))
        refine pt_d (pt_1 (fun n d => r_istoren (L' := [some (.ref 41), some (.ref q1), some (.int x2), some (.int v28), some (.int x4)]) gx3_93 rfl rfl) ?_)
        refine pt_d (pt_iinc (c := 1) gx3_94 rfl z4 (fun v29 h29 => ?_))
        show Pt _ _ _ _ [some (.ref 41), some (.ref q1), some (.int x2), some (.int v28), some (.int v29)] [] _ _
        refine pt_d (pt_1 (fun n d => r_goto gx3_97) ?_)
        exact H v28 v29 h28 h29
noncomputable def crS (V : vS) (q : Nat) (f j : Int) (n : Nat) : Int := sgm (fun i => pI (V 17 (V (q + 1) i) = f ∧ V 19 (V (q + 1) i) = j) (V (q + 2) i)) n
noncomputable def mdS (V : vS) (q : Nat) (f : Int) (n : Nat) : Int := sgm (fun i => pI (V 17 (V (q + 1) i) = f ∧ V 2 (V 18 (V (q + 1) i)) = 5) (V (q + 2) i)) n
theorem crS_s (V : vS) (q : Nat) (f j : Int) (n : Nat) : crS V q f j (n + 1) = crS V q f j n + pI (V 17 (V (q + 1) (n : Nat)) = f ∧ V 19 (V (q + 1) (n : Nat)) = j) (V (q + 2) (n : Nat)) := rfl
theorem mdS_s (V : vS) (q : Nat) (f : Int) (n : Nat) : mdS V q f (n + 1) = mdS V q f n + pI (V 17 (V (q + 1) (n : Nat)) = f ∧ V 2 (V 18 (V (q + 1) (n : Nat))) = 5) (V (q + 2) (n : Nat)) := rfl
def R3 (V : vS) (q : Nat) (f r : Int) (W : vS) : Prop := (∀ (c : Nat) j, c ≠ 44 → W c j = V c j) ∧ (∀ j, 0 ≤ j → j < 8 → W 44 j = w32 (crS V q f j (V q 5).toNat)) ∧ r = w32 (mdS V q f (V q 5).toNat)
theorem l_3 {X : aX} {V : vS} {q : Nat} {f : Int} (hq : 146 ≤ q) (L : (V q 1 = ((16 : Nat) : Int) ∧ V q 6 = ((q + 1 : Nat) : Int)) ∧ V q 7 = ((q + 2 : Nat) : Int)) (hN : V q 5 ≤ 300) : ∀ (n : Nat) (h : aH) (x2 x3 x4 : Int32) (k : Nat), wS h → x2.toInt = f → x3.toInt = w32 (mdS V q f k) → x4.toInt = (k : Int) → (k = 0 ∨ (k : Int) ≤ V q 5) → (∀ (c : Nat) j, c ≠ 44 → vw h c j = V c j) → (∀ j, 0 ≤ j → j < 8 → vw h 44 j = w32 (crS V q f j k)) → Pt n X zM3 13 [some (.ref 41), some (.ref q), some (.int x2), some (.int x3), some (.int x4)] [] h (qI (fun r h' => wS h' ∧ R3 V q f r (vw h'))) := by
  intro n
  induction n with
  | zero => intros; exact pt_z
  | succ n ih =>
    intro h x2 x3 x4 k S h2 h3 h4 hk F A
    have eq1 : vw h q 1 = ((16 : Nat) : Int) := by rw [F q 1 (by omega)]; exact L.1.1
    have eq6 : vw h q 6 = ((q + 1 : Nat) : Int) := by rw [F q 6 (by omega)]; exact L.1.2
    have eq7 : vw h q 7 = ((q + 2 : Nat) : Int) := by rw [F q 7 (by omega)]; exact L.2
    have eq5 := F q 5 (by omega)
    have e17 : vw h 17 (vw h (q + 1) (k : Nat)) = V 17 (V (q + 1) (k : Nat)) := by rw [F 17 _ (by decide), F (q + 1) _ (by omega)]
    have e19 : vw h 19 (vw h (q + 1) (k : Nat)) = V 19 (V (q + 1) (k : Nat)) := by rw [F 19 _ (by decide), F (q + 1) _ (by omega)]
    have e2 : vw h (q + 2) (k : Nat) = V (q + 2) (k : Nat) := F (q + 2) _ (by omega)
    have keep : ∀ g : aH, V 17 (V (q + 1) (k : Nat)) = f → (0 ≤ V 19 (V (q + 1) (k : Nat)) ∧ V 19 (V (q + 1) (k : Nat)) < 8) → vw g = up (vw h) 44 (vw h 19 (vw h (q + 1) (k : Nat))) (w32 (vw h 44 (vw h 19 (vw h (q + 1) (k : Nat))) + vw h (q + 2) (k : Nat))) → (∀ (c : Nat) j, c ≠ 44 → vw g c j = V c j) ∧ ∀ j, 0 ≤ j → j < 8 → vw g 44 j = w32 (crS V q f j (k + 1)) := fun g z cr eg => by
      refine ⟨fun c j a => by rw [eg, up_c a]; exact F c j a, fun j a b => ?_⟩
      rw [eg, up_p, e19, crS_s]
      by_cases y : j = V 19 (V (q + 1) (k : Nat))
      · rw [if_pos y, pI_t (show V 17 (V (q + 1) (k : Nat)) = f ∧ V 19 (V (q + 1) (k : Nat)) = j from ⟨z, y.symm⟩), A _ cr.1 cr.2, e2, w32_add, y]
      · rw [if_neg y, pI_f (show ¬ (V 17 (V (q + 1) (k : Nat)) = f ∧ V 19 (V (q + 1) (k : Nat)) = j) from fun w => y w.2.symm), Int.add_zero]
        exact A j a b
    refine d3_13 S h2 h3 h4 ⟨fun e => ⟨S, F, fun j a b => ?_, ?_⟩, fun e => ⟨⟨eq1, eq6⟩, fun z w4 g4 => ?_, fun z => ⟨eq6, fun _ _ _ c0 c1 => ⟨eq7, fun _ g S2 eg => ⟨⟨by rw [eg, up_c (by omega)]; exact eq1, by rw [eg, up_c (by omega)]; exact eq6⟩, fun _ _ => ⟨fun z2 w3 w4 g3 g4 => ?_, fun z2 => ⟨by rw [eg, up_c (by omega)]; exact eq7, fun _ w3 w4 g3 g4 => ?_⟩⟩⟩⟩⟩⟩⟩
    · rw [show (V q 5).toNat = k by omega]
      exact A j a b
    · rw [show (V q 5).toNat = k by omega]
    · replace g4 := w_1 g4 (by omega) (by omega)
      have nz : ∀ p : Prop, ¬ (V 17 (V (q + 1) (k : Nat)) = f ∧ p) := fun p w => z (by rw [e17]; exact w.1)
      refine ih h x2 x3 w4 (k + 1) S h2 ?_ (by omega) (Or.inr (by omega)) F (fun j a b => ?_)
      · rw [mdS_s, pI_f (nz _), Int.add_zero]
        exact h3
      · rw [crS_s, pI_f (nz _), Int.add_zero]
        exact A j a b
    · rw [e17] at z
      rw [e19] at c0 c1
      obtain ⟨F2, A2⟩ := keep g z ⟨c0, c1⟩ eg
      replace g4 := w_1 g4 (by omega) (by omega)
      have e18 : vw g 2 (vw g 18 (vw g (q + 1) (k : Nat))) = V 2 (V 18 (V (q + 1) (k : Nat))) := by rw [F2 2 _ (by decide), F2 18 _ (by decide), F2 (q + 1) _ (by omega)]
      rw [e18] at z2
      refine ih g x2 w3 w4 (k + 1) S2 h2 ?_ (by omega) (Or.inr (by omega)) F2 A2
      rw [g3, w32_add, mdS_s, pI_f (show ¬ (V 17 (V (q + 1) (k : Nat)) = f ∧ V 2 (V 18 (V (q + 1) (k : Nat))) = 5) from fun w => z2 w.2)]
    · rw [e17] at z
      rw [e19] at c0 c1
      obtain ⟨F2, A2⟩ := keep g z ⟨c0, c1⟩ eg
      replace g4 := w_1 g4 (by omega) (by omega)
      have e18 : vw g 2 (vw g 18 (vw g (q + 1) (k : Nat))) = V 2 (V 18 (V (q + 1) (k : Nat))) := by rw [F2 2 _ (by decide), F2 18 _ (by decide), F2 (q + 1) _ (by omega)]
      rw [e18] at z2
      refine ih g x2 w3 w4 (k + 1) S2 h2 ?_ (by omega) (Or.inr (by omega)) F2 A2
      rw [g3, w32_add, mdS_s, pI_t (show V 17 (V (q + 1) (k : Nat)) = f ∧ V 2 (V 18 (V (q + 1) (k : Nat))) = 5 from ⟨z, z2⟩), F2 (q + 2) _ (by omega)]
theorem c_3 {n : Nat} {X : aX} {h : aH} {x2 : Int32} {a2 : Int} {q1 : Nat} (S : wS h) (z2 : x2.toInt = a2) (hp : 146 ≤ q1 ∧ ((vw h q1 1 = ((16 : Nat) : Int) ∧ vw h q1 6 = ((q1 + 1 : Nat) : Int)) ∧ vw h q1 7 = ((q1 + 2 : Nat) : Int)) ∧ vw h q1 5 ≤ 300) : Pt n X zM3 0 [some (.ref 41), some (.ref q1), some (.int x2), none, none] [] h (qI (fun r h' => wS h' ∧ R3 (vw h) q1 a2 r (vw h'))) := by
  obtain ⟨hq, L, hN⟩ := hp
  refine pt_d (d3_0 S z2 (fun g R w3 w4 g3 g4 => ?_))
  obtain ⟨S2, F, Z⟩ := R
  refine l_3 (V := vw h) hq L hN n g x2 w3 w4 0 S2 z2 ?_ g4 (Or.inl rfl) F (fun j a b => ?_)
  · rw [g3]
    exact (w32_id (z := 0) (by decide) (by decide)).symm
  · rw [Z j a b]
    exact (w32_id (z := 0) (by decide) (by decide)).symm


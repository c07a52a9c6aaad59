-- ===== what is seen of fields =====
theorem vw_new {h h' : aH} {q t N : Nat} (nw : nwI h q t N h') : vw h' = vw h := by
  obtain ⟨-, e1, e2, a, e3, e4⟩ := nw
  funext c j
  by_cases z : c = q
  · subst z
    unfold vw
    split
    · rfl
    · rw [e1, e3]
      exact e4 _
  · exact vw_eq (e2 c z) j
theorem hpB_c {V V' : vS} {s i : Int} {k : Nat} (h9 : V' 69 s = V 69 s) (h0 : V' 70 s = V 70 s) : hpB V' s i k = hpB V s i k := by unfold hpB; rw [cRow1_c h9, h0]
theorem sE_c {V V' : vS} {s i : Int} (h9 : V' 69 s = V 69 s) (h0 : V' 70 s = V 70 s) : ∀ k, sE V' s i k = sE V s i k
  | 0 => rfl
  | k + 1 => by unfold sE; rw [sE_c h9 h0 k, hpB_c h9 h0]
theorem sB_c {V V' : vS} {s i : Int} {k : Nat} (h9 : V' 69 s = V 69 s) (h0 : V' 70 s = V 70 s) (h1 : ∀ j, V' 71 j = V 71 j) (h3 : V' 63 1 = V 63 1) : sB V' s i k = sB V s i k := by unfold sB; rw [sE_c h9 h0, h1, h3]
theorem sN_c {V V' : vS} {s i : Int} (h9 : V' 69 s = V 69 s) (h0 : V' 70 s = V 70 s) (h1 : ∀ j, V' 71 j = V 71 j) (h3 : V' 63 1 = V 63 1) : ∀ k, sN V' s i k = sN V s i k
  | 0 => rfl
  | k + 1 => by unfold sN; rw [sN_c h9 h0 h1 h3 k, sB_c h9 h0 h1 h3]
theorem sV_c {V V' : vS} {s i : Int} {k : Nat} (h9 : V' 69 s = V 69 s) (h0 : V' 70 s = V 70 s) (h1 : ∀ j, V' 71 j = V 71 j) (h3 : V' 63 1 = V 63 1) : sV V' s i k = sV V s i k := by unfold sV; rw [sB_c h9 h0 h1 h3, h1]
def R41 (h : aH) (b y s i r : Int) (V' : vS) : Prop := r = sN (vw h) s i 6 ∧ ∃ q : Nat, 146 ≤ q ∧ ((vw h 65 b = (q : Int) ∧ V' = rwV (vw h) q y s i 6) ∨ (vw h 65 b = -1 ∧ h.1[q]? = none ∧ V' = rwV (up (fillV (vw h) q 0 60 1000) 65 b (q : Int)) q y s i 6))
theorem c_41 {n : Nat} {X : aX} {h : aH} {x1 x2 x4 x5 : Int32} {a1 a2 a4 a5 : Int} (S : wS h) (z1 : x1.toInt = a1) (z2 : x2.toInt = a2) (z4 : x4.toInt = a4) (z5 : x5.toInt = a5) (hp : ((0 ≤ a2 ∧ a2 ≤ 9) ∧ (0 ≤ a4 ∧ a4 < 6) ∧ vw h 70 a4 ≤ 149) ∧ 146 ≤ h.1.length ∧ (vw h 65 a1 = -1 ∨ 146 ≤ vw h 65 a1)) : Pt n X zM41 0 [some (.ref 63), some (.int x1), some (.int x2), some (.ref 68), some (.int x4), some (.int x5), none, none, none, none, none, none] [] h (qI (fun y h' => wS h' ∧ R41 h a1 a2 a4 a5 y (vw h'))) := by
  obtain ⟨⟨hy, hs, hb⟩, hl, h65⟩ := hp
  refine pt_d (d41_0 S z1 z2 z4 z5 ⟨fun e0 e1 q4 h4 S4 _ nw => ⟨⟨?_, by decide⟩, fun h6 p6 h8 S8 p8 p9 e8 f8 w7 w8 w9 u10 u11 g7 g8 g9 => ?_⟩, fun q2 e0 e1 w7 w8 w9 u10 u11 g7 g8 g9 => ?_⟩)
  · obtain ⟨-, -, -, a, e3, -⟩ := nw
    exact ⟨0, a, e3⟩
  · have hq : 146 ≤ q4 := by rw [nw.1]; exact hl
    have E : vw h8 = up (fillV (vw h) q4 0 60 1000) 65 a1 (q4 : Int) := by rw [e8, p6.2, vw_new nw]
    have k9 : ∀ c j, c ≠ 65 → c ≠ q4 → up (fillV (vw h) q4 0 60 1000) 65 a1 (q4 : Int) c j = vw h c j := fun c j n1 n2 => by rw [up_c n1, fillV_c n2]
    refine pt_q (l_41 (V := up (fillV (vw h) q4 0 60 1000) 65 a1 (q4 : Int)) hq hy hs (by rw [k9 70 _ (by decide) (by omega)]; exact hb) n h8 x1 x2 x4 x5 w7 w8 w9 u10 u11 0 S8 z2 z4 z5 (by decide) g9 g7 g8 (E.trans rwV_0.symm)) ?_
    rintro v h' ⟨x, ex, p1, p2, p3⟩
    refine ⟨x, ex, p1, ?_, q4, hq, Or.inr ⟨e1, nw.2.1, p3⟩⟩
    rw [p2]
    exact sN_c (k9 69 _ (by decide) (by omega)) (k9 70 _ (by decide) (by omega)) (fun j => k9 71 j (by decide) (by omega)) (k9 63 1 (by decide) (by omega)) 6
  · have hq : 146 ≤ q2 := by omega
    refine pt_q (l_41 (V := vw h) hq hy hs hb n h x1 x2 x4 x5 w7 w8 w9 u10 u11 0 S z2 z4 z5 (by decide) g9 g7 g8 rwV_0.symm) ?_
    rintro v h' ⟨x, ex, p1, p2, p3⟩
    exact ⟨x, ex, p1, p2, q2, hq, Or.inl ⟨e1.symm, p3⟩⟩

theorem d164_0 {n : Nat} {X : aX} {h : aH} {P : Int → aH → Prop} {x1 x2 x3 x4 : Int32} {a1 a2 a3 a4 : Int} (S : wS h) (z1 : x1.toInt = a1) (z2 : x2.toInt = a2) (z3 : x3.toInt = a3) (z4 : x4.toInt = a4) (H : ((¬ (cField (vw h) a1) → P (-1) h) ∧ ((cField (vw h) a1) → ((¬ (0 ≤ a2 ∧ a2 ≤ 9) → P (-1) h) ∧ ((0 ≤ a2 ∧ a2 ≤ 9) → (((0 ≤ a3 ∧ a3 ≤ 5) → (0 ≤ a3 → a3 < 6 → ((vw h 69 a3 = (-1) → ((((0 ≤ a2 ∧ a2 ≤ 9) ∧ (0 ≤ a3 ∧ a3 < 6) ∧ vw h 70 a3 ≤ 149) ∧ 146 ≤ h.1.length ∧ (vw h 65 a1 = -1 ∨ 146 ≤ vw h 65 a1)) ∧ ∀ (y17 : Int) (h_17 : aH), (wS h_17 ∧ R41 h a1 a2 a3 a4 y17 (vw h_17)) → P y17 h_17)) ∧ (vw h 69 a3 ≠ (-1) → ((vw h 69 a3 = 0 → ((((0 ≤ a2 ∧ a2 ≤ 9) ∧ (0 ≤ a3 ∧ a3 < 6) ∧ vw h 70 a3 ≤ 149) ∧ 146 ≤ h.1.length ∧ (vw h 65 a1 = -1 ∨ 146 ≤ vw h 65 a1)) ∧ ∀ (y21 : Int) (h_21 : aH), (wS h_21 ∧ R41 h a1 a2 a3 a4 y21 (vw h_21)) → P y21 h_21)) ∧ (vw h 69 a3 ≠ 0 → P (-12) h)))))) ∧ (¬ (0 ≤ a3 ∧ a3 ≤ 5) → P (-1) h))))))) : Pt (n + 1) X zM164 0 [some (.ref 0), some (.int x1), some (.int x2), some (.int x3), some (.int x4), none] [] h (qI P) := by
  refine pt_1 (fun n d => r_aloadn gx164_0 rfl) ?_
  refine pt_d (pt_getR gx164_1 S tr_0_0 ?_)
  refine pt_d (pt_1 (fun n d => r_iloadn gx164_4 rfl) ?_)
  refine pt_d (pt_virt (as := [.int x1]) (r := []) gx164_5 rfl (show zmt[77]? = some zM77 from rfl) rfl rfl rfl rfl (c_77 S z1) (kqP (fun v2 h2 => ?_)))
  show Pt _ _ _ 8 _ [.int v2] _ _
  refine pt_d (pt_ifB_eq gx164_8 h2 (fun e3 => ?_) (fun e3 => ?_))
  · have H := H.1 e3
    refine pt_d (pt_iconst gx164_25 (fun v4 h4 => ?_))
    exact pt_d (pt_iret gx164_26 ⟨_, rfl, by rw [h4]; exact H⟩)
  · have H := H.2 e3
    refine pt_d (pt_1 (fun n d => r_iloadn gx164_11 rfl) ?_)
    refine pt_d (pt_stat (as := [.int x2]) (r := []) gx164_12 rfl (show zmt[139]? = some zM139 from rfl) rfl rfl rfl rfl (c_139 S z2) (kqP (fun v5 h5 => ?_)))
    show Pt _ _ _ 15 _ [.int v5] _ _
    refine pt_d (pt_ifB_eq gx164_15 h5 (fun e6 => ?_) (fun e6 => ?_))
    · have H := H.1 e6
      refine pt_d (pt_iconst gx164_25 (fun v7 h7 => ?_))
      exact pt_d (pt_iret gx164_26 ⟨_, rfl, by rw [h7]; exact H⟩)
    · have H := H.2 e6
      refine pt_d (pt_1 (fun n d => r_iloadn gx164_18 rfl) ?_)
      refine pt_d (pt_stat (as := [.int x3]) (r := []) gx164_19 rfl (show zmt[142]? = some zM142 from rfl) rfl rfl rfl rfl (c_142 S z3) (kqP (fun v8 h8 => ?_)))
      show Pt _ _ _ 22 _ [.int v8] _ _
      refine pt_d (pt_ifB_ne gx164_22 h8 (fun e9 => ?_) (fun e9 => ?_))
      · have H := H.1 e9
        refine pt_d (pt_1 (fun n d => r_aloadn gx164_27 rfl) ?_)
        refine pt_d (pt_getR gx164_28 S tr_0_9 ?_)
        refine pt_d (pt_getR gx164_31 S tr_68_0 ?_)
        refine pt_d (pt_1 (fun n d => r_iloadn gx164_34 rfl) ?_)
        refine pt_d (pt_iald (N' := 6) gx164_35 S tl_69 z3 (fun v12 p12 q12 h12 => ?_))
        have H := H p12 q12
        refine pt_d (pt_1 (fun n d => r_istore (L' := [some (.ref 0), some (.int x1), some (.int x2), some (.int x3), some (.int x4), some (.int v12)]) gx164_36 rfl rfl) ?_)
        refine pt_d (pt_1 (fun n d => r_iload gx164_38 rfl) ?_)
        refine pt_d (pt_iconst gx164_40 (fun v13 h13 => ?_))
        refine pt_d (pt_icmp_eq gx164_41 h12 h13 (fun e14 => ?_) (fun e14 => ?_))
        · have H := H.1 e14
          refine pt_d (pt_1 (fun n d => r_aloadn gx164_52 rfl) ?_)
          refine pt_d (pt_getR gx164_53 S tr_0_7 ?_)
          refine pt_d (pt_1 (fun n d => r_iloadn gx164_56 rfl) ?_)
          refine pt_d (pt_1 (fun n d => r_iloadn gx164_57 rfl) ?_)
          refine pt_d (pt_1 (fun n d => r_aloadn gx164_58 rfl) ?_)
          refine pt_d (pt_getR gx164_59 S tr_0_9 ?_)
          refine pt_d (pt_1 (fun n d => r_iloadn gx164_62 rfl) ?_)
          refine pt_d (pt_1 (fun n d => r_iload gx164_63 rfl) ?_)
          obtain ⟨pr17, H⟩ := H
          refine pt_d (pt_virt (as := [.int x1, .int x2, .ref 68, .int x3, .int x4]) (r := []) gx164_65 rfl (show zmt[41]? = some zM41 from rfl) rfl rfl rfl rfl (c_41 S z1 z2 z3 z4 pr17) (kqI (fun v17 y17 h_17 h17 P17 => ?_)))
          have S17 := P17.1
          have H := H y17 h_17 P17
          show Pt _ _ _ 68 _ [.int v17] _ _
          exact pt_d (pt_iret gx164_68 ⟨_, rfl, by rw [h17]; exact H⟩)
        · have H := H.2 e14
          refine pt_d (pt_1 (fun n d => r_iload gx164_44 rfl) ?_)
          refine pt_d (pt_if_eq gx164_46 h12 (fun e18 => ?_) (fun e18 => ?_))
          · have H := H.1 e18
            refine pt_d (pt_1 (fun n d => r_aloadn gx164_52 rfl) ?_)
            refine pt_d (pt_getR gx164_53 S tr_0_7 ?_)
            refine pt_d (pt_1 (fun n d => r_iloadn gx164_56 rfl) ?_)
            refine pt_d (pt_1 (fun n d => r_iloadn gx164_57 rfl) ?_)
            refine pt_d (pt_1 (fun n d => r_aloadn gx164_58 rfl) ?_)
            refine pt_d (pt_getR gx164_59 S tr_0_9 ?_)
            refine pt_d (pt_1 (fun n d => r_iloadn gx164_62 rfl) ?_)
            refine pt_d (pt_1 (fun n d => r_iload gx164_63 rfl) ?_)
            obtain ⟨pr21, H⟩ := H
            refine pt_d (pt_virt (as := [.int x1, .int x2, .ref 68, .int x3, .int x4]) (r := []) gx164_65 rfl (show zmt[41]? = some zM41 from rfl) rfl rfl rfl rfl (c_41 S z1 z2 z3 z4 pr21) (kqI (fun v21 y21 h_21 h21 P21 => ?_)))
            have S21 := P21.1
            have H := H y21 h_21 P21
            show Pt _ _ _ 68 _ [.int v21] _ _
            exact pt_d (pt_iret gx164_68 ⟨_, rfl, by rw [h21]; exact H⟩)
          · have H := H.2 e18
            refine pt_d (pt_bipush gx164_49 (fun v22 h22 => ?_))
            exact pt_d (pt_iret gx164_51 ⟨_, rfl, by rw [h22]; exact H⟩)
      · have H := H.2 e9
        refine pt_d (pt_iconst gx164_25 (fun v23 h23 => ?_))
        exact pt_d (pt_iret gx164_26 ⟨_, rfl, by rw [h23]; exact H⟩)
def R164 (h : aH) (b y s i r : Int) (V' : vS) : Prop := (¬ (cField (vw h) b ∧ (0 ≤ y ∧ y ≤ 9) ∧ 0 ≤ s ∧ s ≤ 5) ∧ r = -1 ∧ V' = vw h) ∨ ((cField (vw h) b ∧ (0 ≤ y ∧ y ≤ 9) ∧ 0 ≤ s ∧ s ≤ 5) ∧ ((vw h 69 s ≠ -1 ∧ vw h 69 s ≠ 0 ∧ r = -12 ∧ V' = vw h) ∨ ((vw h 69 s = -1 ∨ vw h 69 s = 0) ∧ R41 h b y s i r V')))
theorem c_164 {n : Nat} {X : aX} {h : aH} {x1 x2 x3 x4 : Int32} {a1 a2 a3 a4 : Int} (S : wS h) (z1 : x1.toInt = a1) (z2 : x2.toInt = a2) (z3 : x3.toInt = a3) (z4 : x4.toInt = a4) (hp : (∀ j, 0 ≤ j → j < 6 → vw h 70 j ≤ 149) ∧ 146 ≤ h.1.length ∧ ∀ b, cField (vw h) b → vw h 65 b = -1 ∨ 146 ≤ vw h 65 b) : Pt n X zM164 0 [some (.ref 0), some (.int x1), some (.int x2), some (.int x3), some (.int x4), none] [] h (qI (fun y h' => R164 h a1 a2 a3 a4 y (vw h'))) := by
  obtain ⟨p1, p2, p3⟩ := hp
  refine pt_d (d164_0 S z1 z2 z3 z4 ⟨fun e => Or.inl ⟨fun z => e z.1, rfl, rfl⟩, fun e => ⟨fun e2 => Or.inl ⟨fun z => e2 z.2.1, rfl, rfl⟩, fun e2 => ⟨fun e3 u1 u2 => ⟨fun e4 => ⟨⟨⟨e2, ⟨u1, u2⟩, p1 _ u1 u2⟩, p2, p3 _ e⟩, fun y g k => Or.inr ⟨⟨e, e2, e3⟩, Or.inr ⟨Or.inl e4, k.2⟩⟩⟩, fun e4 => ⟨fun e5 => ⟨⟨⟨e2, ⟨u1, u2⟩, p1 _ u1 u2⟩, p2, p3 _ e⟩, fun y g k => Or.inr ⟨⟨e, e2, e3⟩, Or.inr ⟨Or.inr e5, k.2⟩⟩⟩, fun e5 => Or.inr ⟨⟨e, e2, e3⟩, Or.inl ⟨e4, e5, rfl, rfl⟩⟩⟩⟩, fun e3 => Or.inl ⟨fun z => e3 z.2.2, rfl, rfl⟩⟩⟩⟩)


-- ===== what a text says =====
theorem d121_0 {n : Nat} {X : aX} {h : aH} {P : Int → aH → Prop} {x1 : Int32} {a1 : Int} {q2 : Nat} (S : wS h) (z1 : x1.toInt = a1) (H : ∀ (h_1 : aH), (wS h_1 ∧ vw h_1 = op123 (vw h) a1 q2) → (∀ (w3 : Int32) (u4_ : Option Value) (u5_ : Option Value), w3.toInt = 0 → Pt n X zM121 8 [some (.ref 33), some (.int x1), some (.ref q2), some (.int w3), u4_, u5_] [] h_1 (qI P))) : Pt (n + 1) X zM121 0 [some (.ref 33), some (.int x1), some (.ref q2), none, none, none] [] h (qI P) := by
  refine pt_1 (fun n d => r_aloadn gx121_0 rfl) ?_
  refine pt_d (pt_1 (fun n d => r_iloadn gx121_1 rfl) ?_)
  refine pt_d (pt_1 (fun n d => r_aloadn gx121_2 rfl) ?_)
  refine pt_d (pt_virt (as := [.int x1, .ref q2]) (r := []) gx121_3 rfl (show zmt[123]? = some zM123 from rfl) rfl rfl rfl rfl (c_123 S z1) (kqN (fun h_1 P1 => ?_)))
  have S1 := P1.1
  have H := H h_1 P1
  show Pt _ _ _ 6 _ [] _ _
  refine pt_d (pt_iconst gx121_6 (fun v2 h2 => ?_))
  refine pt_d (pt_1 (fun n d => r_istoren (L' := [some (.ref 33), some (.int x1), some (.ref q2), some (.int v2), none, none]) gx121_7 rfl rfl) ?_)
  exact H v2 _ _ h2
theorem d121_8 {n : Nat} {X : aX} {h : aH} {P : Int → aH → Prop} {x1 x3 : Int32} {a1 a3 : Int} {u4 u5 : Option Value} {q2 : Nat} (S : wS h) (z1 : x1.toInt = a1) (z3 : x3.toInt = a3) (H : ((160 ≤ a3 → P 0 h) ∧ (a3 < 160 → ((cpre (vw h) 0 ∧ vw h 33 13 = ((43 : Nat) : Int)) ∧ ∀ (y5 : Int) (h_5 : aH), (wS h_5 ∧ cRes 8 0 (vw h) (vw h_5) ∧ vRes 8 0 (vw h) y5 (vw h_5)) → ((tIn (vw h_5) ∧ (0 : Int) ≤ 63 ∧ (63 : Int) ≤ 127) ∧ ∀ (y8 : Int) (h_8 : aH), (wS h_8 ∧ R125 (vw h_5) 63 y8 (vw h_8)) → ((y8 = 0 → ∀ h_11 : aH, wS h_11 → vw h_11 = up (vw h_8) 33 14 a3 → P y5 h_11) ∧ (y8 ≠ 0 → ((y5 = 0 → ((cpre (vw h_8) 0 ∧ vw h_8 33 13 = ((43 : Nat) : Int)) ∧ ∀ (y15 : Int) (h_15 : aH), (wS h_15 ∧ cRes 8 0 (vw h_8) (vw h_15) ∧ vRes 8 0 (vw h_8) y15 (vw h_15)) → ((tIn (vw h_15) ∧ (0 : Int) ≤ 59 ∧ (59 : Int) ≤ 127) ∧ ∀ (y18 : Int) (h_18 : aH), (wS h_18 ∧ R125 (vw h_15) 59 y18 (vw h_18)) → ((y18 ≠ 0 → (∀ (w3 : Int32) (u4_ : Option Value) (u5_ : Option Value), w3.toInt = w32 (a3 + 1) → Pt n X zM121 8 [some (.ref 33), some (.int x1), some (.ref q2), some (.int w3), u4_, u5_] [] h_18 (qI P))) ∧ (y18 = 0 → P 0 h_18))))) ∧ (y5 ≠ 0 → ((cpre (vw h_8) 0 ∧ vw h_8 33 13 = ((43 : Nat) : Int)) ∧ ∀ (y24 : Int) (h_24 : aH), (wS h_24 ∧ cRes 8 0 (vw h_8) (vw h_24) ∧ vRes 8 0 (vw h_8) y24 (vw h_24)) → ∀ h_26 : aH, wS h_26 → vw h_26 = up (vw h_24) 33 14 a3 → P y24 h_26)))))))))) : Pt (n + 1) X zM121 8 [some (.ref 33), some (.int x1), some (.ref q2), some (.int x3), u4, u5] [] h (qI P) := by
  refine pt_1 (fun n d => r_iloadn gx121_8 rfl) ?_
  refine pt_d (pt_sipush gx121_9 (fun v1 h1 => ?_))
  refine pt_d (pt_icmp_ge gx121_12 z3 h1 (fun e2 => ?_) (fun e2 => ?_))
  · have H := H.1 e2
    refine pt_d (pt_iconst gx121_83 (fun v3 h3 => ?_))
    exact pt_d (pt_iret gx121_84 ⟨_, rfl, by rw [h3]; exact H⟩)
  · have H := H.2 e2
    refine pt_d (pt_1 (fun n d => r_aloadn gx121_15 rfl) ?_)
    refine pt_d (pt_iconst gx121_16 (fun v4 h4 => ?_))
    obtain ⟨pr5, H⟩ := H
    refine pt_d (pt_virt (as := [.int v4]) (r := []) gx121_17 rfl (show zmt[128]? = some zM128 from rfl) rfl rfl rfl rfl ((v_gram X _).2.2.2.2.2.1 S h4 pr5) (kqI (fun v5 y5 h_5 h5 P5 => ?_)))
    have S5 := P5.1
    have H := H y5 h_5 P5
    show Pt _ _ _ 20 _ [.int v5] _ _
    refine pt_d (pt_1 (fun n d => r_istore (L' := [some (.ref 33), some (.int x1), some (.ref q2), some (.int x3), some (.int v5), u5]) gx121_20 rfl rfl) ?_)
    refine pt_d (pt_iconst gx121_22 (fun v6 h6 => ?_))
    refine pt_d (pt_1 (fun n d => r_istore (L' := [some (.ref 33), some (.int x1), some (.ref q2), some (.int x3), some (.int v5), some (.int v6)]) gx121_23 rfl rfl) ?_)
    refine pt_d (pt_1 (fun n d => r_aloadn gx121_25 rfl) ?_)
    refine pt_d (pt_bipush gx121_26 (fun v7 h7 => ?_))
    obtain ⟨pr8, H⟩ := H
    refine pt_d (pt_virt (as := [.int v7]) (r := []) gx121_28 rfl (show zmt[125]? = some zM125 from rfl) rfl rfl rfl rfl (c_125 S5 h7 pr8) (kqI (fun v8 y8 h_8 h8 P8 => ?_)))
    have S8 := P8.1
    have H := H y8 h_8 P8
    show Pt _ _ _ 31 _ [.int v8] _ _
    refine pt_d (pt_if_eq gx121_31 h8 (fun e9 => ?_) (fun e9 => ?_))
    · have H := H.1 e9
      refine pt_d (pt_1 (fun n d => r_iload gx121_53 rfl) ?_)
      refine pt_d (pt_if_eq gx121_55 h6 (fun e10 => absurd e10 (by decide)) (fun e10 => ?_))
      refine pt_d (pt_1 (fun n d => r_aloadn gx121_58 rfl) ?_)
      refine pt_d (pt_1 (fun n d => r_iloadn gx121_59 rfl) ?_)
      refine pt_d (pt_putI (B := 14) gx121_60 S8 z3 (fun h_11 S11 e11 => ?_))
      refine pt_d (pt_1 (fun n d => r_iload gx121_63 rfl) ?_)
      have H := H h_11 S11 (by rw [e11])
      exact pt_d (pt_iret gx121_65 ⟨_, rfl, by rw [h5]; exact H⟩)
    · have H := H.2 e9
      refine pt_d (pt_1 (fun n d => r_iload gx121_34 rfl) ?_)
      refine pt_d (pt_if_eq gx121_36 h5 (fun e12 => ?_) (fun e12 => ?_))
      · have H := H.1 e12
        refine pt_d (pt_iconst gx121_43 (fun v13 h13 => ?_))
        refine pt_d (pt_1 (fun n d => r_istore (L' := [some (.ref 33), some (.int x1), some (.ref q2), some (.int x3), some (.int v5), some (.int v13)]) gx121_44 rfl rfl) ?_)
        refine pt_d (pt_1 (fun n d => r_aloadn gx121_46 rfl) ?_)
        refine pt_d (pt_iconst gx121_47 (fun v14 h14 => ?_))
        obtain ⟨pr15, H⟩ := H
        refine pt_d (pt_virt (as := [.int v14]) (r := []) gx121_48 rfl (show zmt[128]? = some zM128 from rfl) rfl rfl rfl rfl ((v_gram X _).2.2.2.2.2.1 S8 h14 pr15) (kqI (fun v15 y15 h_15 h15 P15 => ?_)))
        have S15 := P15.1
        have H := H y15 h_15 P15
        show Pt _ _ _ 51 _ [.int v15] _ _
        refine pt_d (pt_1 (fun n d => r_istore (L' := [some (.ref 33), some (.int x1), some (.ref q2), some (.int x3), some (.int v15), some (.int v13)]) gx121_51 rfl rfl) ?_)
        refine pt_d (pt_1 (fun n d => r_iload gx121_53 rfl) ?_)
        refine pt_d (pt_if_eq gx121_55 h13 (fun e16 => ?_) (fun e16 => absurd e16 (by decide)))
        refine pt_d (pt_1 (fun n d => r_aloadn gx121_66 rfl) ?_)
        refine pt_d (pt_bipush gx121_67 (fun v17 h17 => ?_))
        obtain ⟨pr18, H⟩ := H
        refine pt_d (pt_virt (as := [.int v17]) (r := []) gx121_69 rfl (show zmt[125]? = some zM125 from rfl) rfl rfl rfl rfl (c_125 S15 h17 pr18) (kqI (fun v18 y18 h_18 h18 P18 => ?_)))
        have S18 := P18.1
        have H := H y18 h_18 P18
        show Pt _ _ _ 72 _ [.int v18] _ _
        refine pt_d (pt_if_ne gx121_72 h18 (fun e19 => ?_) (fun e19 => ?_))
        · have H := H.1 e19
          refine pt_d (pt_iinc (c := 1) gx121_77 rfl z3 (fun v20 h20 => ?_))
          show Pt _ _ _ _ [some (.ref 33), some (.int x1), some (.ref q2), some (.int v20), some (.int v15), some (.int v13)] [] _ _
          refine pt_d (pt_1 (fun n d => r_goto gx121_80) ?_)
          exact H v20 _ _ h20
        · have H := H.2 e19
          refine pt_d (pt_iconst gx121_75 (fun v21 h21 => ?_))
          exact pt_d (pt_iret gx121_76 ⟨_, rfl, by rw [h21]; exact H⟩)
      · have H := H.2 e12
        refine pt_d (pt_iconst gx121_39 (fun v22 h22 => ?_))
        refine pt_d (pt_1 (fun n d => r_goto gx121_40) ?_)
        refine pt_d (pt_1 (fun n d => r_istore (L' := [some (.ref 33), some (.int x1), some (.ref q2), some (.int x3), some (.int v5), some (.int v22)]) gx121_44 rfl rfl) ?_)
        refine pt_d (pt_1 (fun n d => r_aloadn gx121_46 rfl) ?_)
        refine pt_d (pt_iconst gx121_47 (fun v23 h23 => ?_))
        obtain ⟨pr24, H⟩ := H
        refine pt_d (pt_virt (as := [.int v23]) (r := []) gx121_48 rfl (show zmt[128]? = some zM128 from rfl) rfl rfl rfl rfl ((v_gram X _).2.2.2.2.2.1 S8 h23 pr24) (kqI (fun v24 y24 h_24 h24 P24 => ?_)))
        have S24 := P24.1
        have H := H y24 h_24 P24
        show Pt _ _ _ 51 _ [.int v24] _ _
        refine pt_d (pt_1 (fun n d => r_istore (L' := [some (.ref 33), some (.int x1), some (.ref q2), some (.int x3), some (.int v24), some (.int v22)]) gx121_51 rfl rfl) ?_)
        refine pt_d (pt_1 (fun n d => r_iload gx121_53 rfl) ?_)
        refine pt_d (pt_if_eq gx121_55 h22 (fun e25 => absurd e25 (by decide)) (fun e25 => ?_))
        refine pt_d (pt_1 (fun n d => r_aloadn gx121_58 rfl) ?_)
        refine pt_d (pt_1 (fun n d => r_iloadn gx121_59 rfl) ?_)
        refine pt_d (pt_putI (B := 14) gx121_60 S24 z3 (fun h_26 S26 e26 => ?_))
        refine pt_d (pt_1 (fun n d => r_iload gx121_63 rfl) ?_)
        have H := H h_26 S26 (by rw [e26])
        exact pt_d (pt_iret gx121_65 ⟨_, rfl, by rw [h24]; exact H⟩)
def fr3 (V V' : vS) : Prop := ∀ c j, (c ≠ 33 ∨ (j ≠ 11 ∧ j ≠ 12 ∧ j ≠ 14)) → V' c j = V c j
theorem fr3_r (V : vS) : fr3 V V := fun _ _ _ => rfl
theorem fr3_u {V V1 V' : vS} {j v : Int} (a : fr3 V V1) (e : V' = up V1 33 j v) (h : j = 11 ∨ j = 12 ∨ j = 14) : fr3 V V' := fun c i z => by
  rw [e]
  by_cases w : c = 33
  · subst w
    have : i ≠ j := by omega
    rw [up_j this]
    exact a 33 i z
  · rw [up_c w]
    exact a c i z
theorem fr3_N {V V' : vS} (a : fr3 V V') : (fun j => V' 43 j) = fun j => V 43 j := funext fun j => a 43 j (Or.inl (by decide))
theorem l_121 {X : aX} {x1 : Int32} : ∀ (n : Nat) (h : aH) (x3 : Int32) (u4 u5 : Option Value) (i : Int) (ls : cLs), wS h → x3.toInt = i → 0 ≤ i → i + (ls.length : Int) ≤ 160 → tIn (vw h) → vw h 33 12 = -1 → vw h 33 13 = ((43 : Nat) : Int) → vw h 33 14 = -1 → Lns (cTx (vw h)) (vw h 33 11) ls → Pt n X zM121 8 [some (.ref 33), some (.int x1), some (.ref 43), some (.int x3), u4, u5] [] h (qI (fun y h' => wS h' ∧ y = (valL (fun j => vw h 43 j) i ls).1 ∧ vw h' 33 14 = (valL (fun j => vw h 43 j) i ls).2 ∧ fr3 (vw h) (vw h'))) := by
  intro n
  induction n with
  | zero => exact fun _ _ _ _ _ _ _ _ _ _ _ _ _ _ _ => pt_z
  | succ n ih =>
    intro h x3 u4 u5 i ls S h3 i0 il I e12 e13 e14 D
    cases ls with
    | nil => exact D.elim
    | cons l ls =>
      obtain ⟨M, L⟩ := l
      obtain ⟨q, d, t⟩ := D
      have il : i + ((ls.length + 1 : Nat) : Int) ≤ 160 := il
      have c0 : cpre (vw h) 0 := ⟨I, e12, by decide, by decide⟩
      refine d121_8 S rfl h3 ⟨fun ge => by omega, fun lt => ⟨⟨c0, e13⟩, fun y5 h5 k5 => ?_⟩⟩
      obtain ⟨S5, c5, v5⟩ := k5
      obtain ⟨I5, -⟩ := cR_i I c5
      refine ⟨⟨I5, by decide, by decide⟩, fun y8 h8 k8 => ?_⟩
      obtain ⟨S8, k8⟩ := k8
      rcases d with ⟨m0, d, t63⟩ | ⟨q1, d1, t63, d2⟩
      · -- no test
        have m0 : M = [] := m0
        obtain ⟨e5, r5⟩ := v5 q L d
        obtain ⟨s1, s2, s3, s4⟩ := v_st e5
        refine ⟨fun z => ?_, fun z => ?_⟩
        · obtain ⟨v8, -⟩ := tk_0 k8 z
          intro h11 S11 e11
          rw [valL_y (Or.inl m0)]
          refine ⟨S11, (evC_e r5).symm, by rw [e11, up_s], ?_⟩
          rw [v8] at e11
          exact fr3_u (fr3_u (fr3_r _) e5 (Or.inl rfl)) e11 (Or.inr (Or.inr rfl))
        · obtain ⟨⟨-, z2, -⟩, -⟩ := tk_1 k8 z
          rw [s1, s2] at z2
          exact absurd z2 t63
      · -- a test
        have m0 : M ≠ [] := cd_ne d1
        obtain ⟨e5, r5⟩ := v5 q1 M d1
        obtain ⟨s1, s2, s3, s4⟩ := v_st e5
        have ev := evC_e r5
        refine ⟨fun z => ?_, fun z => ?_⟩
        · have n63 := (tk_0 k8 z).2 (s3.trans e12)
          rw [s1, s2] at n63
          exact absurd t63 n63
        · obtain ⟨-, e8⟩ := tk_1 k8 z
          obtain ⟨I8, f12, f11⟩ := tk_i I5 k8 z
          have F8 := fr3_u (fr3_u (fr3_r _) e5 (Or.inl rfl)) e8 (Or.inl rfl)
          have f13 : vw h8 33 13 = ((43 : Nat) : Int) := (F8 33 13 (Or.inr (by decide))).trans e13
          obtain ⟨u1, u2, u3, u4'⟩ := v_st e8
          have d2' : Cd (cTx (vw h8)) 8 0 (vw h8 33 11) q L := by rw [u1, s1, u2, s2]; exact d2
          have pre : cpre (vw h8) 0 ∧ vw h8 33 13 = ((43 : Nat) : Int) := ⟨⟨I8, f12, by decide, by decide⟩, f13⟩
          refine ⟨fun y0 => ⟨pre, fun y15 h15 k15 => ?_⟩, fun y0 => ⟨pre, fun y24 h24 k24 h26 S26 e26 => ?_⟩⟩
          · obtain ⟨S15, c15, v15⟩ := k15
            obtain ⟨I15, -⟩ := cR_i I8 c15
            obtain ⟨e15, -⟩ := v15 q L d2'
            obtain ⟨w1, w2, w3, w4⟩ := v_st e15
            have F15 := fr3_u F8 e15 (Or.inl rfl)
            have g14 : vw h15 33 14 = -1 := by rw [e15, up_j (by decide), e8, up_j (by decide), e5, up_j (by decide)]; exact e14
            have vn : valL (fun j => vw h 43 j) i ((M, L) :: ls) = valL (fun j => vw h 43 j) (i + 1) ls := valL_n (fun w => w.elim m0 (fun w => w (ev.trans y0)))
            refine ⟨⟨I15, by decide, by decide⟩, fun y18 h18 k18 => ?_⟩
            obtain ⟨S18, k18⟩ := k18
            refine ⟨fun z18 w3' u4_ u5_ g3 => ?_, fun z18 => ?_⟩
            · obtain ⟨⟨-, t59, -⟩, e18⟩ := tk_1 k18 z18
              rw [w1, u1, s1, w2] at t59
              cases ls with
              | nil => exact absurd t59 t
              | cons l2 ls =>
                obtain ⟨-, q2, t1, t2⟩ := t
                obtain ⟨I18, g12, g11⟩ := tk_i I15 k18 z18
                obtain ⟨b1, b2, b3, b4⟩ := v_st e18
                have F18 := fr3_u F15 e18 (Or.inl rfl)
                replace g3 := w_1 g3 (by omega) (by omega)
                have il : i + ((ls.length + 1 + 1 : Nat) : Int) ≤ 160 := il
                refine pt_q (ih h18 w3' u4_ u5_ (i + 1) (l2 :: ls) S18 g3 (by omega) (by show i + 1 + ((ls.length + 1 : Nat) : Int) ≤ 160; omega) I18 g12 ((F18 33 13 (Or.inr (by decide))).trans e13) (by rw [e18, up_j (by decide)]; exact g14) ⟨q2, by rw [b1, w1, u1, s1, b2, w2]; exact t1, by rw [b1, w1, u1, s1]; exact t2⟩) ?_
                rintro v h' ⟨x, ex, p1, p2, p3, p4⟩
                rw [fr3_N F18] at p2 p3
                rw [vn]
                exact ⟨x, ex, p1, p2, p3, fun c j hc => (p4 c j hc).trans (F18 c j hc)⟩
            · obtain ⟨v18, n59⟩ := tk_0 k18 z18
              have n59 := n59 (w3.trans f12)
              rw [w1, u1, s1, w2] at n59
              cases ls with
              | nil =>
                rw [vn]
                refine ⟨S18, rfl, ?_, ?_⟩
                · rw [v18]
                  exact g14
                · rw [v18]
                  exact F15
              | cons l2 ls => exact absurd t.1 n59
          · obtain ⟨S24, c24, v24⟩ := k24
            obtain ⟨e24, r24⟩ := v24 q L d2'
            have F24 := fr3_u F8 e24 (Or.inl rfl)
            rw [fr3_N F8] at r24
            rw [valL_y (Or.inr (by rw [ev]; exact y0))]
            exact ⟨S26, (evC_e r24).symm, by rw [e26, up_s], fr3_u F24 e26 (Or.inr (Or.inr rfl))⟩
def tOK (V : vS) (t : Int) : Prop := pre122 V t ∧ ∃ ls, Lns (oT V t) 0 ls ∧ (ls.length : Int) ≤ 160
def R121 (V : vS) (t y : Int) (V' : vS) : Prop := y = (tSay (oT V t) (fun j => V 43 j)).1 ∧ V' 33 14 = (tSay (oT V t) (fun j => V 43 j)).2 ∧ ∀ c j, (c ≠ 33 ∨ (j < 9 ∨ 14 < j)) → V' c j = V c j
theorem c_121 {n : Nat} {X : aX} {h : aH} {x1 : Int32} {a1 : Int} (S : wS h) (z1 : x1.toInt = a1) (hp : tOK (vw h) a1) : Pt n X zM121 0 [some (.ref 33), some (.int x1), some (.ref 43), none, none, none] [] h (qI (fun y h' => wS h' ∧ R121 (vw h) a1 y (vw h'))) := by
  obtain ⟨hp, ls, D, len⟩ := hp
  obtain ⟨o1, o2, o3, o4, o5, o6⟩ := op_T (q := ((43 : Nat) : Int)) hp
  refine pt_d (d121_0 S z1 (fun h2 k2 w3 u4 u5 g3 => ?_))
  have ev : vw h2 = op123 (vw h) a1 ((43 : Nat) : Int) := k2.2
  have e13 : vw h2 33 13 = ((43 : Nat) : Int) := by
    rw [ev]
    unfold op123
    rw [up_j (by decide), up_s]
  have e14 : vw h2 33 14 = -1 := by
    rw [ev]
    unfold op123
    rw [up_s]
  refine pt_q (l_121 n h2 w3 u4 u5 0 ls k2.1 g3 (Int.le_refl _) (by omega) (by rw [ev]; exact o1) (by rw [ev]; exact o5) e13 e14 (by rw [ev, o2, o4]; exact D)) ?_
  rintro y h' ⟨x, ex, p1, p2, p3, p4⟩
  have eN : (fun j => vw h2 43 j) = fun j => vw h 43 j := funext fun j => by rw [ev]; exact o6 43 j (Or.inl (by decide))
  rw [eN] at p2 p3
  refine ⟨x, ex, p1, ?_, ?_, fun c j hc => ?_⟩
  · rw [tSay_e D]
    exact p2
  · rw [tSay_e D]
    exact p3
  · rw [p4 c j (hc.imp id (fun z => by omega)), ev]
    exact o6 c j hc


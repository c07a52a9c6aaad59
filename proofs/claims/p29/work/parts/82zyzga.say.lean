-- ===== the class works a text out =====
def vRes (t : Nat) (o : Int) (V : vS) (r : Int) (V' : vS) : Prop := ∀ q L, Cd (cTx V) t o (V 33 11) q L → V' = up V 33 11 q ∧ ∀ st, run (fun j => V 43 j) L st = r :: st
def vLo (t : Nat) (o : Int) (V : vS) (a r : Int) (V' : vS) : Prop := V 33 12 = -1 → ∀ q L, Cd (cTx V) t o (V 33 11) q L → V' = up V 33 11 q ∧ ∀ st, run (fun j => V 43 j) L (a :: st) = r :: st
theorem v_st {V V1 : vS} {q : Int} (e : V1 = up V 33 11 q) : cTx V1 = cTx V ∧ V1 33 11 = q ∧ V1 33 12 = V 33 12 ∧ (fun j => V1 43 j) = fun j => V 43 j := by
  subst e
  refine ⟨cT_u V q, up_s _ _ _ _, up_j (by decide), ?_⟩
  funext j
  exact up_c (by decide)
theorem stp_b {N : Int → Int} {c x a b : Int} {st : List Int} (h : c ≠ 1 ∧ c ≠ 2 ∧ c ≠ 3 ∧ c ≠ 4) : stpP N c x (b :: a :: st) = bo c a b :: st := by
  unfold stpP
  rw [if_neg h.1, if_neg h.2.1]
  dsimp only
  rw [if_neg h.2.2.1, if_neg h.2.2.2]
theorem run_c (N : Int → Int) (w x : Int) (L : List (Int × Int)) (st : List Int) : run N ((w, x) :: L) st = run N L (stpP N w x st) := rfl
section VV
variable {t t1 t2 : Nat} {o : Int} {V V1 V4 V' : vS}
theorem v_seq {y r : Int} (S : seqC t t1 t2) (e12 : V 33 12 = -1) (c1 : vRes t1 o V y V1) (c2 : vLo t2 o V1 y r V') : vRes t o V r V' := by
  intro q L d
  obtain ⟨q1, L1, L2, d1, d2, rfl⟩ := kq_x S d
  obtain ⟨e1, r1⟩ := c1 q1 L1 d1
  obtain ⟨s1, s2, s3, s4⟩ := v_st e1
  obtain ⟨e2, r2⟩ := c2 (s3.trans e12) q L2 (by rw [s1, s2]; exact d2)
  refine ⟨by rw [e2, e1, up_up], fun st => ?_⟩
  rw [run_a, r1, ← s4]
  exact r2 st
theorem v_out {a : Int} (S : lopC t t1) (h : V 33 12 = -1 → opB t (cTx V (V 33 11)) = false) : vLo t o V a a V := fun e q L d => by
  rcases kl_x S d with ⟨-, rfl, rfl⟩ | ⟨z, -⟩
  · exact ⟨(up_id _ _ _).symm, fun st => rfl⟩
  · rw [h e] at z
    cases z
theorem v_step {c y y1 a a' r : Int} (S : lopC t t1) (k : R125 V c y V4) (hy : y ≠ 0) (hc : opB t c = true) (nb : c ≠ 1 ∧ c ≠ 2 ∧ c ≠ 3 ∧ c ≠ 4) (c1 : vRes t1 o V4 y1 V1) (ea : a' = bo c a y1) (c2 : vLo t o V1 a' r V') : vLo t o V a r V' := by
  intro e q L d
  obtain ⟨⟨k1, k2, k3⟩, k4⟩ := tk_1 k hy
  obtain ⟨u1, u2, u3, u4⟩ := v_st k4
  rcases kl_x S d with ⟨z, -⟩ | ⟨-, q1, L1, L2, d1, d2, rfl⟩
  · rw [k2, hc] at z
    cases z
  · obtain ⟨e1, r1⟩ := c1 q1 L1 (by rw [u1, u2]; exact d1)
    obtain ⟨s1, s2, s3, s4⟩ := v_st e1
    obtain ⟨e2, r2⟩ := c2 (s3.trans (u3.trans e)) q L2 (by rw [s1, u1, s2]; exact d2)
    refine ⟨by rw [e2, e1, k4, up_up, up_up], fun st => ?_⟩
    have r1' := r1 (a :: st)
    have r2' := r2 st
    rw [u4] at r1'
    rw [s4, u4] at r2'
    rw [run_a, r1', run_c, k2, stp_b nb, ← ea]
    exact r2'
theorem c13 {t : Nat} (c : cRes t o V V') : V' 33 13 = V 33 13 := by
  obtain ⟨q, f, a, g, -, e, -⟩ := c
  rw [e, up_j (by decide), up_j (by decide)]
theorem k13 {c y : Int} (k : R125 V c y V') : V' 33 13 = V 33 13 := by
  rcases k with ⟨-, e, -⟩ | ⟨-, -, e⟩
  · rw [e]
  · rw [e, up_j (by decide)]
end VV
theorem bo_42 (a b : Int) : bo 42 a b = w32 (a * b) := rfl
theorem bo_47 (a b : Int) : bo 47 a b = if b = 0 then 0 else iDiv a b := rfl
theorem bo_37 (a b : Int) : bo 37 a b = if b = 0 then 0 else iRem a b := rfl
theorem bo_43 (a b : Int) : bo 43 a b = w32 (a + b) := rfl
theorem bo_45 (a b : Int) : bo 45 a b = w32 (a - b) := rfl
theorem bo_60 (a b : Int) : bo 60 a b = bI (a < b) := rfl
theorem bo_61 (a b : Int) : bo 61 a b = bI (a = b) := rfl
theorem bo_62 (a b : Int) : bo 62 a b = bI (b < a) := rfl
theorem bo_38 (a b : Int) : bo 38 a b = bI (a ≠ 0 ∧ b ≠ 0) := rfl
theorem bo_124 (a b : Int) : bo 124 a b = bI (a ≠ 0 ∨ b ≠ 0) := rfl
theorem i01 : (if (0 : Int) = 0 then (0 : Int) else 1) = 0 := rfl
theorem i11 : (if (1 : Int) = 0 then (0 : Int) else 1) = 1 := rfl

abbrev vt133 (n : Nat) (X : aX) : Prop := ∀ {h : aH} {x1 : Int32} {a1 : Int}, wS h → x1.toInt = a1 → (cpre (vw h) a1 ∧ vw h 33 13 = ((43 : Nat) : Int)) → Pt n X zM133 0 [some (.ref 33), some (.int x1), none, none, none] [] h (qI (fun r h' => wS h' ∧ cRes 0 a1 (vw h) (vw h') ∧ vRes 0 a1 (vw h) r (vw h')))
abbrev vt132 (n : Nat) (X : aX) : Prop := ∀ {h : aH} {x1 : Int32} {a1 : Int}, wS h → x1.toInt = a1 → (cpre (vw h) a1 ∧ vw h 33 13 = ((43 : Nat) : Int)) → Pt n X zM132 0 [some (.ref 33), some (.int x1), none, none, none] [] h (qI (fun r h' => wS h' ∧ cRes 1 a1 (vw h) (vw h') ∧ vRes 1 a1 (vw h) r (vw h')))
abbrev vt131 (n : Nat) (X : aX) : Prop := ∀ {h : aH} {x1 : Int32} {a1 : Int}, wS h → x1.toInt = a1 → (cpre (vw h) a1 ∧ vw h 33 13 = ((43 : Nat) : Int)) → Pt n X zM131 0 [some (.ref 33), some (.int x1), none, none] [] h (qI (fun r h' => wS h' ∧ cRes 3 a1 (vw h) (vw h') ∧ vRes 3 a1 (vw h) r (vw h')))
abbrev vt130 (n : Nat) (X : aX) : Prop := ∀ {h : aH} {x1 : Int32} {a1 : Int}, wS h → x1.toInt = a1 → (cpre (vw h) a1 ∧ vw h 33 13 = ((43 : Nat) : Int)) → Pt n X zM130 0 [some (.ref 33), some (.int x1), none] [] h (qI (fun r h' => wS h' ∧ cRes 5 a1 (vw h) (vw h') ∧ vRes 5 a1 (vw h) r (vw h')))
abbrev vt129 (n : Nat) (X : aX) : Prop := ∀ {h : aH} {x1 : Int32} {a1 : Int}, wS h → x1.toInt = a1 → (cpre (vw h) a1 ∧ vw h 33 13 = ((43 : Nat) : Int)) → Pt n X zM129 0 [some (.ref 33), some (.int x1), none, none, none] [] h (qI (fun r h' => wS h' ∧ cRes 6 a1 (vw h) (vw h') ∧ vRes 6 a1 (vw h) r (vw h')))
abbrev vt128 (n : Nat) (X : aX) : Prop := ∀ {h : aH} {x1 : Int32} {a1 : Int}, wS h → x1.toInt = a1 → (cpre (vw h) a1 ∧ vw h 33 13 = ((43 : Nat) : Int)) → Pt n X zM128 0 [some (.ref 33), some (.int x1), none, none, none] [] h (qI (fun r h' => wS h' ∧ cRes 8 a1 (vw h) (vw h') ∧ vRes 8 a1 (vw h) r (vw h')))
abbrev vl132 (n : Nat) (X : aX) : Prop := ∀ {h : aH} {x1 x2 x3 : Int32} {u4 : Option Value} {a1 a2 a3 : Int}, wS h → x1.toInt = a1 → x2.toInt = a2 → x3.toInt = a3 → tIn (vw h) → 0 ≤ a1 → a1 ≤ 8 → 0 ≤ a3 → a3 ≤ vw h 33 11 → vw h 33 13 = ((43 : Nat) : Int) → Pt n X zM132 8 [some (.ref 33), some (.int x1), some (.int x2), some (.int x3), u4] [] h (qI (fun r h' => vLo 2 a1 (vw h) a2 r (vw h')))
abbrev vl131 (n : Nat) (X : aX) : Prop := ∀ {h : aH} {x1 x2 x3 : Int32} {a1 a2 a3 : Int}, wS h → x1.toInt = a1 → x2.toInt = a2 → x3.toInt = a3 → tIn (vw h) → 0 ≤ a1 → a1 ≤ 8 → 0 ≤ a3 → a3 ≤ vw h 33 11 → vw h 33 13 = ((43 : Nat) : Int) → Pt n X zM131 8 [some (.ref 33), some (.int x1), some (.int x2), some (.int x3)] [] h (qI (fun r h' => vLo 4 a1 (vw h) a2 r (vw h')))
abbrev vl129 (n : Nat) (X : aX) : Prop := ∀ {h : aH} {x1 x2 x3 : Int32} {u4 : Option Value} {a1 a2 a3 : Int}, wS h → x1.toInt = a1 → x2.toInt = a2 → x3.toInt = a3 → tIn (vw h) → 0 ≤ a1 → a1 ≤ 8 → 0 ≤ a3 → a3 ≤ vw h 33 11 → vw h 33 13 = ((43 : Nat) : Int) → Pt n X zM129 8 [some (.ref 33), some (.int x1), some (.int x2), some (.int x3), u4] [] h (qI (fun r h' => vLo 7 a1 (vw h) a2 r (vw h')))
abbrev vl128 (n : Nat) (X : aX) : Prop := ∀ {h : aH} {x1 x2 x3 : Int32} {u4 : Option Value} {a1 a2 a3 : Int}, wS h → x1.toInt = a1 → x2.toInt = a2 → x3.toInt = a3 → tIn (vw h) → 0 ≤ a1 → a1 ≤ 8 → 0 ≤ a3 → a3 ≤ vw h 33 11 → vw h 33 13 = ((43 : Nat) : Int) → Pt n X zM128 8 [some (.ref 33), some (.int x1), some (.int x2), some (.int x3), u4] [] h (qI (fun r h' => vLo 9 a1 (vw h) a2 r (vw h')))
theorem g132_0 {n : Nat} {X : aX} {h : aH} {P : Int → aH → Prop} {x1 : Int32} {a1 : Int} (S : wS h) (z1 : x1.toInt = a1) (K133 : vt133 n X) (H : ((cpre (vw h) a1 ∧ vw h 33 13 = ((43 : Nat) : Int)) ∧ ∀ (y1 : Int) (h_1 : aH), (wS h_1 ∧ cRes 0 a1 (vw h) (vw h_1) ∧ vRes 0 a1 (vw h) y1 (vw h_1)) → (∀ (w2 : Int32) (w3 : Int32) (u4_ : Option Value), w2.toInt = y1 → w3.toInt = 0 → Pt n X zM132 8 [some (.ref 33), some (.int x1), some (.int w2), some (.int w3), u4_] [] h_1 (qI P)))) : Pt (n + 1) X zM132 0 [some (.ref 33), some (.int x1), none, none, none] [] h (qI P) := by
  refine pt_1 (fun n d => r_aloadn gx132_0 rfl) ?_
  refine pt_d (pt_1 (fun n d => r_iloadn gx132_1 rfl) ?_)
  obtain ⟨pr1, H⟩ := H
  refine pt_d (pt_virt (as := [.int x1]) (r := []) gx132_2 rfl (show zmt[133]? = some zM133 from rfl) rfl rfl rfl rfl (K133 S z1 pr1) (kqI (fun v1 y1 h_1 h1 P1 => ?_)))
  have S1 := P1.1
  have H := H y1 h_1 P1
  show Pt _ _ _ 5 _ [.int v1] _ _
  refine pt_d (pt_1 (fun n d => r_istoren (L' := [some (.ref 33), some (.int x1), some (.int v1), none, none]) gx132_5 rfl rfl) ?_)
  refine pt_d (pt_iconst gx132_6 (fun v2 h2 => ?_))
  refine pt_d (pt_1 (fun n d => r_istoren (L' := [some (.ref 33), some (.int x1), some (.int v1), some (.int v2), none]) gx132_7 rfl rfl) ?_)
  exact H v1 v2 _ h1 h2
theorem g132_8 {n : Nat} {X : aX} {h : aH} {P : Int → aH → Prop} {x1 x2 x3 : Int32} {a1 a2 a3 : Int} {u4 : Option Value} (S : wS h) (z1 : x1.toInt = a1) (z2 : x2.toInt = a2) (z3 : x3.toInt = a3) (K133 : vt133 n X) (H : ((160 ≤ a3 → P a2 h) ∧ (a3 < 160 → ((tIn (vw h) ∧ (0 : Int) ≤ 42 ∧ (42 : Int) ≤ 127) ∧ ∀ (y4 : Int) (h_4 : aH), (wS h_4 ∧ R125 (vw h) 42 y4 (vw h_4)) → ((y4 = 0 → ((tIn (vw h_4) ∧ (0 : Int) ≤ 47 ∧ (47 : Int) ≤ 127) ∧ ∀ (y7 : Int) (h_7 : aH), (wS h_7 ∧ R125 (vw h_4) 47 y7 (vw h_7)) → ((y7 = 0 → ((tIn (vw h_7) ∧ (0 : Int) ≤ 37 ∧ (37 : Int) ≤ 127) ∧ ∀ (y10 : Int) (h_10 : aH), (wS h_10 ∧ R125 (vw h_7) 37 y10 (vw h_10)) → ((y10 = 0 → P a2 h_10) ∧ (y10 ≠ 0 → ((cpre (vw h_10) a1 ∧ vw h_10 33 13 = ((43 : Nat) : Int)) ∧ ∀ (y12 : Int) (h_12 : aH), (wS h_12 ∧ cRes 0 a1 (vw h_10) (vw h_12) ∧ vRes 0 a1 (vw h_10) y12 (vw h_12)) → ((y12 ≠ 0 → (∀ (w2 : Int32) (w3 : Int32) (u4_ : Option Value), w2.toInt = iRem a2 y12 → w3.toInt = w32 (a3 + 1) → Pt n X zM132 8 [some (.ref 33), some (.int x1), some (.int w2), some (.int w3), u4_] [] h_12 (qI P))) ∧ (y12 = 0 → (∀ (w2 : Int32) (w3 : Int32) (u4_ : Option Value), w2.toInt = 0 → w3.toInt = w32 (a3 + 1) → Pt n X zM132 8 [some (.ref 33), some (.int x1), some (.int w2), some (.int w3), u4_] [] h_12 (qI P))))))))) ∧ (y7 ≠ 0 → ((cpre (vw h_7) a1 ∧ vw h_7 33 13 = ((43 : Nat) : Int)) ∧ ∀ (y18 : Int) (h_18 : aH), (wS h_18 ∧ cRes 0 a1 (vw h_7) (vw h_18) ∧ vRes 0 a1 (vw h_7) y18 (vw h_18)) → ((y18 ≠ 0 → (∀ (w2 : Int32) (w3 : Int32) (u4_ : Option Value), w2.toInt = iDiv a2 y18 → w3.toInt = w32 (a3 + 1) → Pt n X zM132 8 [some (.ref 33), some (.int x1), some (.int w2), some (.int w3), u4_] [] h_18 (qI P))) ∧ (y18 = 0 → (∀ (w2 : Int32) (w3 : Int32) (u4_ : Option Value), w2.toInt = 0 → w3.toInt = w32 (a3 + 1) → Pt n X zM132 8 [some (.ref 33), some (.int x1), some (.int w2), some (.int w3), u4_] [] h_18 (qI P))))))))) ∧ (y4 ≠ 0 → ((cpre (vw h_4) a1 ∧ vw h_4 33 13 = ((43 : Nat) : Int)) ∧ ∀ (y24 : Int) (h_24 : aH), (wS h_24 ∧ cRes 0 a1 (vw h_4) (vw h_24) ∧ vRes 0 a1 (vw h_4) y24 (vw h_24)) → (∀ (w2 : Int32) (w3 : Int32) (u4_ : Option Value), w2.toInt = w32 (a2 * y24) → w3.toInt = w32 (a3 + 1) → Pt n X zM132 8 [some (.ref 33), some (.int x1), some (.int w2), some (.int w3), u4_] [] h_24 (qI P))))))))) : Pt (n + 1) X zM132 8 [some (.ref 33), some (.int x1), some (.int x2), some (.int x3), u4] [] h (qI P) := by
  refine pt_1 (fun n d => r_iloadn gx132_8 rfl) ?_
  refine pt_d (pt_sipush gx132_9 (fun v1 h1 => ?_))
  refine pt_d (pt_icmp_ge gx132_12 z3 h1 (fun e2 => ?_) (fun e2 => ?_))
  · have H := H.1 e2
    refine pt_d (pt_1 (fun n d => r_iloadn gx132_109 rfl) ?_)
    exact pt_d (pt_iret gx132_110 ⟨_, rfl, by rw [z2]; exact H⟩)
  · have H := H.2 e2
    refine pt_d (pt_1 (fun n d => r_aloadn gx132_15 rfl) ?_)
    refine pt_d (pt_bipush gx132_16 (fun v3 h3 => ?_))
    obtain ⟨pr4, H⟩ := H
    refine pt_d (pt_virt (as := [.int v3]) (r := []) gx132_18 rfl (show zmt[125]? = some zM125 from rfl) rfl rfl rfl rfl (c_125 S h3 pr4) (kqI (fun v4 y4 h_4 h4 P4 => ?_)))
    have S4 := P4.1
    have H := H y4 h_4 P4
    show Pt _ _ _ 21 _ [.int v4] _ _
    refine pt_d (pt_if_eq gx132_21 h4 (fun e5 => ?_) (fun e5 => ?_))
    · have H := H.1 e5
      refine pt_d (pt_1 (fun n d => r_aloadn gx132_35 rfl) ?_)
      refine pt_d (pt_bipush gx132_36 (fun v6 h6 => ?_))
      obtain ⟨pr7, H⟩ := H
      refine pt_d (pt_virt (as := [.int v6]) (r := []) gx132_38 rfl (show zmt[125]? = some zM125 from rfl) rfl rfl rfl rfl (c_125 S4 h6 pr7) (kqI (fun v7 y7 h_7 h7 P7 => ?_)))
      have S7 := P7.1
      have H := H y7 h_7 P7
      show Pt _ _ _ 41 _ [.int v7] _ _
      refine pt_d (pt_if_eq gx132_41 h7 (fun e8 => ?_) (fun e8 => ?_))
      · have H := H.1 e8
        refine pt_d (pt_1 (fun n d => r_aloadn gx132_68 rfl) ?_)
        refine pt_d (pt_bipush gx132_69 (fun v9 h9 => ?_))
        obtain ⟨pr10, H⟩ := H
        refine pt_d (pt_virt (as := [.int v9]) (r := []) gx132_71 rfl (show zmt[125]? = some zM125 from rfl) rfl rfl rfl rfl (c_125 S7 h9 pr10) (kqI (fun v10 y10 h_10 h10 P10 => ?_)))
        have S10 := P10.1
        have H := H y10 h_10 P10
        show Pt _ _ _ 74 _ [.int v10] _ _
        refine pt_d (pt_if_eq gx132_74 h10 (fun e11 => ?_) (fun e11 => ?_))
        · have H := H.1 e11
          refine pt_d (pt_1 (fun n d => r_iloadn gx132_101 rfl) ?_)
          exact pt_d (pt_iret gx132_102 ⟨_, rfl, by rw [z2]; exact H⟩)
        · have H := H.2 e11
          refine pt_d (pt_1 (fun n d => r_aloadn gx132_77 rfl) ?_)
          refine pt_d (pt_1 (fun n d => r_iloadn gx132_78 rfl) ?_)
          obtain ⟨pr12, H⟩ := H
          refine pt_d (pt_virt (as := [.int x1]) (r := []) gx132_79 rfl (show zmt[133]? = some zM133 from rfl) rfl rfl rfl rfl (K133 S10 z1 pr12) (kqI (fun v12 y12 h_12 h12 P12 => ?_)))
          have S12 := P12.1
          have H := H y12 h_12 P12
          show Pt _ _ _ 82 _ [.int v12] _ _
          refine pt_d (pt_1 (fun n d => r_istore (L' := [some (.ref 33), some (.int x1), some (.int x2), some (.int x3), some (.int v12)]) gx132_82 rfl rfl) ?_)
          refine pt_d (pt_1 (fun n d => r_iload gx132_84 rfl) ?_)
          refine pt_d (pt_if_ne gx132_86 h12 (fun e13 => ?_) (fun e13 => ?_))
          · have H := H.1 e13
            refine pt_d (pt_1 (fun n d => r_iloadn gx132_93 rfl) ?_)
            refine pt_d (pt_1 (fun n d => r_iload gx132_94 rfl) ?_)
            refine pt_d (pt_irem gx132_96 z2 h12 (fun v14 h14 => ?_))
            refine pt_d (pt_1 (fun n d => r_istoren (L' := [some (.ref 33), some (.int x1), some (.int v14), some (.int x3), some (.int v12)]) gx132_97 rfl rfl) ?_)
            refine pt_d (pt_1 (fun n d => r_goto gx132_98) ?_)
            refine pt_d (pt_iinc (c := 1) gx132_103 rfl z3 (fun v15 h15 => ?_))
            show Pt _ _ _ _ [some (.ref 33), some (.int x1), some (.int v14), some (.int v15), some (.int v12)] [] _ _
            refine pt_d (pt_1 (fun n d => r_goto gx132_106) ?_)
            exact H v14 v15 _ h14 h15
          · have H := H.2 e13
            refine pt_d (pt_iconst gx132_89 (fun v16 h16 => ?_))
            refine pt_d (pt_1 (fun n d => r_goto gx132_90) ?_)
            refine pt_d (pt_1 (fun n d => r_istoren (L' := [some (.ref 33), some (.int x1), some (.int v16), some (.int x3), some (.int v12)]) gx132_97 rfl rfl) ?_)
            refine pt_d (pt_1 (fun n d => r_goto gx132_98) ?_)
            refine pt_d (pt_iinc (c := 1) gx132_103 rfl z3 (fun v17 h17 => ?_))
            show Pt _ _ _ _ [some (.ref 33), some (.int x1), some (.int v16), some (.int v17), some (.int v12)] [] _ _
            refine pt_d (pt_1 (fun n d => r_goto gx132_106) ?_)
            exact H v16 v17 _ h16 h17
      · have H := H.2 e8
        refine pt_d (pt_1 (fun n d => r_aloadn gx132_44 rfl) ?_)
        refine pt_d (pt_1 (fun n d => r_iloadn gx132_45 rfl) ?_)
        obtain ⟨pr18, H⟩ := H
        refine pt_d (pt_virt (as := [.int x1]) (r := []) gx132_46 rfl (show zmt[133]? = some zM133 from rfl) rfl rfl rfl rfl (K133 S7 z1 pr18) (kqI (fun v18 y18 h_18 h18 P18 => ?_)))
        have S18 := P18.1
        have H := H y18 h_18 P18
        show Pt _ _ _ 49 _ [.int v18] _ _
        refine pt_d (pt_1 (fun n d => r_istore (L' := [some (.ref 33), some (.int x1), some (.int x2), some (.int x3), some (.int v18)]) gx132_49 rfl rfl) ?_)
        refine pt_d (pt_1 (fun n d => r_iload gx132_51 rfl) ?_)
        refine pt_d (pt_if_ne gx132_53 h18 (fun e19 => ?_) (fun e19 => ?_))
        · have H := H.1 e19
          refine pt_d (pt_1 (fun n d => r_iloadn gx132_60 rfl) ?_)
          refine pt_d (pt_1 (fun n d => r_iload gx132_61 rfl) ?_)
          refine pt_d (pt_idiv gx132_63 z2 h18 (fun v20 h20 => ?_))
          refine pt_d (pt_1 (fun n d => r_istoren (L' := [some (.ref 33), some (.int x1), some (.int v20), some (.int x3), some (.int v18)]) gx132_64 rfl rfl) ?_)
          refine pt_d (pt_1 (fun n d => r_goto gx132_65) ?_)
          refine pt_d (pt_iinc (c := 1) gx132_103 rfl z3 (fun v21 h21 => ?_))
          show Pt _ _ _ _ [some (.ref 33), some (.int x1), some (.int v20), some (.int v21), some (.int v18)] [] _ _
          refine pt_d (pt_1 (fun n d => r_goto gx132_106) ?_)
          exact H v20 v21 _ h20 h21
        · have H := H.2 e19
          refine pt_d (pt_iconst gx132_56 (fun v22 h22 => ?_))
          refine pt_d (pt_1 (fun n d => r_goto gx132_57) ?_)
          refine pt_d (pt_1 (fun n d => r_istoren (L' := [some (.ref 33), some (.int x1), some (.int v22), some (.int x3), some (.int v18)]) gx132_64 rfl rfl) ?_)
          refine pt_d (pt_1 (fun n d => r_goto gx132_65) ?_)
          refine pt_d (pt_iinc (c := 1) gx132_103 rfl z3 (fun v23 h23 => ?_))
          show Pt _ _ _ _ [some (.ref 33), some (.int x1), some (.int v22), some (.int v23), some (.int v18)] [] _ _
          refine pt_d (pt_1 (fun n d => r_goto gx132_106) ?_)
          exact H v22 v23 _ h22 h23
    · have H := H.2 e5
      refine pt_d (pt_1 (fun n d => r_iloadn gx132_24 rfl) ?_)
      refine pt_d (pt_1 (fun n d => r_aloadn gx132_25 rfl) ?_)
      refine pt_d (pt_1 (fun n d => r_iloadn gx132_26 rfl) ?_)
      obtain ⟨pr24, H⟩ := H
      refine pt_d (pt_virt (as := [.int x1]) (r := [.int x2]) gx132_27 rfl (show zmt[133]? = some zM133 from rfl) rfl rfl rfl rfl (K133 S4 z1 pr24) (kqI (fun v24 y24 h_24 h24 P24 => ?_)))
      have S24 := P24.1
      have H := H y24 h_24 P24
      show Pt _ _ _ 30 _ [.int v24, .int x2] _ _
      refine pt_d (pt_imul gx132_30 z2 h24 (fun v25 h25 => ?_))
      refine pt_d (pt_1 (fun n d => r_istoren (L' := [some (.ref 33), some (.int x1), some (.int v25), some (.int x3), u4]) gx132_31 rfl rfl) ?_)
      refine pt_d (pt_1 (fun n d => r_goto gx132_32) ?_)
      refine pt_d (pt_iinc (c := 1) gx132_103 rfl z3 (fun v26 h26 => ?_))
      show Pt _ _ _ _ [some (.ref 33), some (.int x1), some (.int v25), some (.int v26), u4] [] _ _
      refine pt_d (pt_1 (fun n d => r_goto gx132_106) ?_)
      exact H v25 v26 _ h25 h26
theorem g131_0 {n : Nat} {X : aX} {h : aH} {P : Int → aH → Prop} {x1 : Int32} {a1 : Int} (S : wS h) (z1 : x1.toInt = a1) (K132 : vt132 n X) (H : ((cpre (vw h) a1 ∧ vw h 33 13 = ((43 : Nat) : Int)) ∧ ∀ (y1 : Int) (h_1 : aH), (wS h_1 ∧ cRes 1 a1 (vw h) (vw h_1) ∧ vRes 1 a1 (vw h) y1 (vw h_1)) → (∀ (w2 : Int32) (w3 : Int32), w2.toInt = y1 → w3.toInt = 0 → Pt n X zM131 8 [some (.ref 33), some (.int x1), some (.int w2), some (.int w3)] [] h_1 (qI P)))) : Pt (n + 1) X zM131 0 [some (.ref 33), some (.int x1), none, none] [] h (qI P) := by
  refine pt_1 (fun n d => r_aloadn gx131_0 rfl) ?_
  refine pt_d (pt_1 (fun n d => r_iloadn gx131_1 rfl) ?_)
  obtain ⟨pr1, H⟩ := H
  refine pt_d (pt_virt (as := [.int x1]) (r := []) gx131_2 rfl (show zmt[132]? = some zM132 from rfl) rfl rfl rfl rfl (K132 S z1 pr1) (kqI (fun v1 y1 h_1 h1 P1 => ?_)))
  have S1 := P1.1
  have H := H y1 h_1 P1
  show Pt _ _ _ 5 _ [.int v1] _ _
  refine pt_d (pt_1 (fun n d => r_istoren (L' := [some (.ref 33), some (.int x1), some (.int v1), none]) gx131_5 rfl rfl) ?_)
  refine pt_d (pt_iconst gx131_6 (fun v2 h2 => ?_))
  refine pt_d (pt_1 (fun n d => r_istoren (L' := [some (.ref 33), some (.int x1), some (.int v1), some (.int v2)]) gx131_7 rfl rfl) ?_)
  exact H v1 v2 h1 h2
theorem g131_8 {n : Nat} {X : aX} {h : aH} {P : Int → aH → Prop} {x1 x2 x3 : Int32} {a1 a2 a3 : Int} (S : wS h) (z1 : x1.toInt = a1) (z2 : x2.toInt = a2) (z3 : x3.toInt = a3) (K132 : vt132 n X) (H : ((160 ≤ a3 → P a2 h) ∧ (a3 < 160 → ((tIn (vw h) ∧ (0 : Int) ≤ 43 ∧ (43 : Int) ≤ 127) ∧ ∀ (y4 : Int) (h_4 : aH), (wS h_4 ∧ R125 (vw h) 43 y4 (vw h_4)) → ((y4 = 0 → ((tIn (vw h_4) ∧ (0 : Int) ≤ 45 ∧ (45 : Int) ≤ 127) ∧ ∀ (y7 : Int) (h_7 : aH), (wS h_7 ∧ R125 (vw h_4) 45 y7 (vw h_7)) → ((y7 = 0 → P a2 h_7) ∧ (y7 ≠ 0 → ((cpre (vw h_7) a1 ∧ vw h_7 33 13 = ((43 : Nat) : Int)) ∧ ∀ (y9 : Int) (h_9 : aH), (wS h_9 ∧ cRes 1 a1 (vw h_7) (vw h_9) ∧ vRes 1 a1 (vw h_7) y9 (vw h_9)) → (∀ (w2 : Int32) (w3 : Int32), w2.toInt = w32 (a2 - y9) → w3.toInt = w32 (a3 + 1) → Pt n X zM131 8 [some (.ref 33), some (.int x1), some (.int w2), some (.int w3)] [] h_9 (qI P))))))) ∧ (y4 ≠ 0 → ((cpre (vw h_4) a1 ∧ vw h_4 33 13 = ((43 : Nat) : Int)) ∧ ∀ (y12 : Int) (h_12 : aH), (wS h_12 ∧ cRes 1 a1 (vw h_4) (vw h_12) ∧ vRes 1 a1 (vw h_4) y12 (vw h_12)) → (∀ (w2 : Int32) (w3 : Int32), w2.toInt = w32 (a2 + y12) → w3.toInt = w32 (a3 + 1) → Pt n X zM131 8 [some (.ref 33), some (.int x1), some (.int w2), some (.int w3)] [] h_12 (qI P))))))))) : Pt (n + 1) X zM131 8 [some (.ref 33), some (.int x1), some (.int x2), some (.int x3)] [] h (qI P) := by
  refine pt_1 (fun n d => r_iloadn gx131_8 rfl) ?_
  refine pt_d (pt_sipush gx131_9 (fun v1 h1 => ?_))
  refine pt_d (pt_icmp_ge gx131_12 z3 h1 (fun e2 => ?_) (fun e2 => ?_))
  · have H := H.1 e2
    refine pt_d (pt_1 (fun n d => r_iloadn gx131_63 rfl) ?_)
    exact pt_d (pt_iret gx131_64 ⟨_, rfl, by rw [z2]; exact H⟩)
  · have H := H.2 e2
    refine pt_d (pt_1 (fun n d => r_aloadn gx131_15 rfl) ?_)
    refine pt_d (pt_bipush gx131_16 (fun v3 h3 => ?_))
    obtain ⟨pr4, H⟩ := H
    refine pt_d (pt_virt (as := [.int v3]) (r := []) gx131_18 rfl (show zmt[125]? = some zM125 from rfl) rfl rfl rfl rfl (c_125 S h3 pr4) (kqI (fun v4 y4 h_4 h4 P4 => ?_)))
    have S4 := P4.1
    have H := H y4 h_4 P4
    show Pt _ _ _ 21 _ [.int v4] _ _
    refine pt_d (pt_if_eq gx131_21 h4 (fun e5 => ?_) (fun e5 => ?_))
    · have H := H.1 e5
      refine pt_d (pt_1 (fun n d => r_aloadn gx131_35 rfl) ?_)
      refine pt_d (pt_bipush gx131_36 (fun v6 h6 => ?_))
      obtain ⟨pr7, H⟩ := H
      refine pt_d (pt_virt (as := [.int v6]) (r := []) gx131_38 rfl (show zmt[125]? = some zM125 from rfl) rfl rfl rfl rfl (c_125 S4 h6 pr7) (kqI (fun v7 y7 h_7 h7 P7 => ?_)))
      have S7 := P7.1
      have H := H y7 h_7 P7
      show Pt _ _ _ 41 _ [.int v7] _ _
      refine pt_d (pt_if_eq gx131_41 h7 (fun e8 => ?_) (fun e8 => ?_))
      · have H := H.1 e8
        refine pt_d (pt_1 (fun n d => r_iloadn gx131_55 rfl) ?_)
        exact pt_d (pt_iret gx131_56 ⟨_, rfl, by rw [z2]; exact H⟩)
      · have H := H.2 e8
        refine pt_d (pt_1 (fun n d => r_iloadn gx131_44 rfl) ?_)
        refine pt_d (pt_1 (fun n d => r_aloadn gx131_45 rfl) ?_)
        refine pt_d (pt_1 (fun n d => r_iloadn gx131_46 rfl) ?_)
        obtain ⟨pr9, H⟩ := H
        refine pt_d (pt_virt (as := [.int x1]) (r := [.int x2]) gx131_47 rfl (show zmt[132]? = some zM132 from rfl) rfl rfl rfl rfl (K132 S7 z1 pr9) (kqI (fun v9 y9 h_9 h9 P9 => ?_)))
        have S9 := P9.1
        have H := H y9 h_9 P9
        show Pt _ _ _ 50 _ [.int v9, .int x2] _ _
        refine pt_d (pt_isub gx131_50 z2 h9 (fun v10 h10 => ?_))
        refine pt_d (pt_1 (fun n d => r_istoren (L' := [some (.ref 33), some (.int x1), some (.int v10), some (.int x3)]) gx131_51 rfl rfl) ?_)
        refine pt_d (pt_1 (fun n d => r_goto gx131_52) ?_)
        refine pt_d (pt_iinc (c := 1) gx131_57 rfl z3 (fun v11 h11 => ?_))
        show Pt _ _ _ _ [some (.ref 33), some (.int x1), some (.int v10), some (.int v11)] [] _ _
        refine pt_d (pt_1 (fun n d => r_goto gx131_60) ?_)
        exact H v10 v11 h10 h11
    · have H := H.2 e5
      refine pt_d (pt_1 (fun n d => r_iloadn gx131_24 rfl) ?_)
      refine pt_d (pt_1 (fun n d => r_aloadn gx131_25 rfl) ?_)
      refine pt_d (pt_1 (fun n d => r_iloadn gx131_26 rfl) ?_)
      obtain ⟨pr12, H⟩ := H
      refine pt_d (pt_virt (as := [.int x1]) (r := [.int x2]) gx131_27 rfl (show zmt[132]? = some zM132 from rfl) rfl rfl rfl rfl (K132 S4 z1 pr12) (kqI (fun v12 y12 h_12 h12 P12 => ?_)))
      have S12 := P12.1
      have H := H y12 h_12 P12
      show Pt _ _ _ 30 _ [.int v12, .int x2] _ _
      refine pt_d (pt_iadd gx131_30 z2 h12 (fun v13 h13 => ?_))
      refine pt_d (pt_1 (fun n d => r_istoren (L' := [some (.ref 33), some (.int x1), some (.int v13), some (.int x3)]) gx131_31 rfl rfl) ?_)
      refine pt_d (pt_1 (fun n d => r_goto gx131_32) ?_)
      refine pt_d (pt_iinc (c := 1) gx131_57 rfl z3 (fun v14 h14 => ?_))
      show Pt _ _ _ _ [some (.ref 33), some (.int x1), some (.int v13), some (.int v14)] [] _ _
      refine pt_d (pt_1 (fun n d => r_goto gx131_60) ?_)
      exact H v13 v14 h13 h14
theorem g129_0 {n : Nat} {X : aX} {h : aH} {P : Int → aH → Prop} {x1 : Int32} {a1 : Int} (S : wS h) (z1 : x1.toInt = a1) (K130 : vt130 n X) (H : ((cpre (vw h) a1 ∧ vw h 33 13 = ((43 : Nat) : Int)) ∧ ∀ (y1 : Int) (h_1 : aH), (wS h_1 ∧ cRes 5 a1 (vw h) (vw h_1) ∧ vRes 5 a1 (vw h) y1 (vw h_1)) → (∀ (w2 : Int32) (w3 : Int32) (u4_ : Option Value), w2.toInt = y1 → w3.toInt = 0 → Pt n X zM129 8 [some (.ref 33), some (.int x1), some (.int w2), some (.int w3), u4_] [] h_1 (qI P)))) : Pt (n + 1) X zM129 0 [some (.ref 33), some (.int x1), none, none, none] [] h (qI P) := by
  refine pt_1 (fun n d => r_aloadn gx129_0 rfl) ?_
  refine pt_d (pt_1 (fun n d => r_iloadn gx129_1 rfl) ?_)
  obtain ⟨pr1, H⟩ := H
  refine pt_d (pt_virt (as := [.int x1]) (r := []) gx129_2 rfl (show zmt[130]? = some zM130 from rfl) rfl rfl rfl rfl (K130 S z1 pr1) (kqI (fun v1 y1 h_1 h1 P1 => ?_)))
  have S1 := P1.1
  have H := H y1 h_1 P1
  show Pt _ _ _ 5 _ [.int v1] _ _
  refine pt_d (pt_1 (fun n d => r_istoren (L' := [some (.ref 33), some (.int x1), some (.int v1), none, none]) gx129_5 rfl rfl) ?_)
  refine pt_d (pt_iconst gx129_6 (fun v2 h2 => ?_))
  refine pt_d (pt_1 (fun n d => r_istoren (L' := [some (.ref 33), some (.int x1), some (.int v1), some (.int v2), none]) gx129_7 rfl rfl) ?_)
  exact H v1 v2 _ h1 h2
theorem g129_8 {n : Nat} {X : aX} {h : aH} {P : Int → aH → Prop} {x1 x2 x3 : Int32} {a1 a2 a3 : Int} {u4 : Option Value} (S : wS h) (z1 : x1.toInt = a1) (z2 : x2.toInt = a2) (z3 : x3.toInt = a3) (K130 : vt130 n X) (H : ((160 ≤ a3 → P a2 h) ∧ (a3 < 160 → ((tIn (vw h) ∧ (0 : Int) ≤ 38 ∧ (38 : Int) ≤ 127) ∧ ∀ (y4 : Int) (h_4 : aH), (wS h_4 ∧ R125 (vw h) 38 y4 (vw h_4)) → ((y4 = 0 → P a2 h_4) ∧ (y4 ≠ 0 → ((cpre (vw h_4) a1 ∧ vw h_4 33 13 = ((43 : Nat) : Int)) ∧ ∀ (y6 : Int) (h_6 : aH), (wS h_6 ∧ cRes 5 a1 (vw h_4) (vw h_6) ∧ vRes 5 a1 (vw h_4) y6 (vw h_6)) → ((a2 = 0 → (∀ (w2 : Int32) (w3 : Int32) (u4_ : Option Value), w2.toInt = (if (0 : Int) = 0 then 0 else 1) → w3.toInt = w32 (a3 + 1) → Pt n X zM129 8 [some (.ref 33), some (.int x1), some (.int w2), some (.int w3), u4_] [] h_6 (qI P))) ∧ (a2 ≠ 0 → ((y6 = 0 → (∀ (w2 : Int32) (w3 : Int32) (u4_ : Option Value), w2.toInt = (if (0 : Int) = 0 then 0 else 1) → w3.toInt = w32 (a3 + 1) → Pt n X zM129 8 [some (.ref 33), some (.int x1), some (.int w2), some (.int w3), u4_] [] h_6 (qI P))) ∧ (y6 ≠ 0 → (∀ (w2 : Int32) (w3 : Int32) (u4_ : Option Value), w2.toInt = (if (1 : Int) = 0 then 0 else 1) → w3.toInt = w32 (a3 + 1) → Pt n X zM129 8 [some (.ref 33), some (.int x1), some (.int w2), some (.int w3), u4_] [] h_6 (qI P))))))))))))) : Pt (n + 1) X zM129 8 [some (.ref 33), some (.int x1), some (.int x2), some (.int x3), u4] [] h (qI P) := by
  refine pt_1 (fun n d => r_iloadn gx129_8 rfl) ?_
  refine pt_d (pt_sipush gx129_9 (fun v1 h1 => ?_))
  refine pt_d (pt_icmp_ge gx129_12 z3 h1 (fun e2 => ?_) (fun e2 => ?_))
  · have H := H.1 e2
    refine pt_d (pt_1 (fun n d => r_iloadn gx129_55 rfl) ?_)
    exact pt_d (pt_iret gx129_56 ⟨_, rfl, by rw [z2]; exact H⟩)
  · have H := H.2 e2
    refine pt_d (pt_1 (fun n d => r_aloadn gx129_15 rfl) ?_)
    refine pt_d (pt_bipush gx129_16 (fun v3 h3 => ?_))
    obtain ⟨pr4, H⟩ := H
    refine pt_d (pt_virt (as := [.int v3]) (r := []) gx129_18 rfl (show zmt[125]? = some zM125 from rfl) rfl rfl rfl rfl (c_125 S h3 pr4) (kqI (fun v4 y4 h_4 h4 P4 => ?_)))
    have S4 := P4.1
    have H := H y4 h_4 P4
    show Pt _ _ _ 21 _ [.int v4] _ _
    refine pt_d (pt_if_eq gx129_21 h4 (fun e5 => ?_) (fun e5 => ?_))
    · have H := H.1 e5
      refine pt_d (pt_1 (fun n d => r_iloadn gx129_55 rfl) ?_)
      exact pt_d (pt_iret gx129_56 ⟨_, rfl, by rw [z2]; exact H⟩)
    · have H := H.2 e5
      refine pt_d (pt_1 (fun n d => r_aloadn gx129_24 rfl) ?_)
      refine pt_d (pt_1 (fun n d => r_iloadn gx129_25 rfl) ?_)
      obtain ⟨pr6, H⟩ := H
      refine pt_d (pt_virt (as := [.int x1]) (r := []) gx129_26 rfl (show zmt[130]? = some zM130 from rfl) rfl rfl rfl rfl (K130 S4 z1 pr6) (kqI (fun v6 y6 h_6 h6 P6 => ?_)))
      have S6 := P6.1
      have H := H y6 h_6 P6
      show Pt _ _ _ 29 _ [.int v6] _ _
      refine pt_d (pt_1 (fun n d => r_istore (L' := [some (.ref 33), some (.int x1), some (.int x2), some (.int x3), some (.int v6)]) gx129_29 rfl rfl) ?_)
      refine pt_d (pt_1 (fun n d => r_iloadn gx129_31 rfl) ?_)
      refine pt_d (pt_if_eq gx129_32 z2 (fun e7 => ?_) (fun e7 => ?_))
      · have H := H.1 e7
        refine pt_d (pt_iconst gx129_44 (fun v8 h8 => ?_))
        refine pt_d (pt_stat (as := [.int v8]) (r := []) gx129_45 rfl (show zmt[127]? = some zM127 from rfl) rfl rfl rfl rfl (c_127 S6 h8) (kqP (fun v9 h9 => ?_)))
        show Pt _ _ _ 48 _ [.int v9] _ _
        refine pt_d (pt_1 (fun n d => r_istoren (L' := [some (.ref 33), some (.int x1), some (.int v9), some (.int x3), some (.int v6)]) gx129_48 rfl rfl) ?_)
        refine pt_d (pt_iinc (c := 1) gx129_49 rfl z3 (fun v10 h10 => ?_))
        show Pt _ _ _ _ [some (.ref 33), some (.int x1), some (.int v9), some (.int v10), some (.int v6)] [] _ _
        refine pt_d (pt_1 (fun n d => r_goto gx129_52) ?_)
        exact H v9 v10 _ h9 h10
      · have H := H.2 e7
        refine pt_d (pt_1 (fun n d => r_iload gx129_35 rfl) ?_)
        refine pt_d (pt_if_eq gx129_37 h6 (fun e11 => ?_) (fun e11 => ?_))
        · have H := H.1 e11
          refine pt_d (pt_iconst gx129_44 (fun v12 h12 => ?_))
          refine pt_d (pt_stat (as := [.int v12]) (r := []) gx129_45 rfl (show zmt[127]? = some zM127 from rfl) rfl rfl rfl rfl (c_127 S6 h12) (kqP (fun v13 h13 => ?_)))
          show Pt _ _ _ 48 _ [.int v13] _ _
          refine pt_d (pt_1 (fun n d => r_istoren (L' := [some (.ref 33), some (.int x1), some (.int v13), some (.int x3), some (.int v6)]) gx129_48 rfl rfl) ?_)
          refine pt_d (pt_iinc (c := 1) gx129_49 rfl z3 (fun v14 h14 => ?_))
          show Pt _ _ _ _ [some (.ref 33), some (.int x1), some (.int v13), some (.int v14), some (.int v6)] [] _ _
          refine pt_d (pt_1 (fun n d => r_goto gx129_52) ?_)
          exact H v13 v14 _ h13 h14
        · have H := H.2 e11
          refine pt_d (pt_iconst gx129_40 (fun v15 h15 => ?_))
          refine pt_d (pt_1 (fun n d => r_goto gx129_41) ?_)
          refine pt_d (pt_stat (as := [.int v15]) (r := []) gx129_45 rfl (show zmt[127]? = some zM127 from rfl) rfl rfl rfl rfl (c_127 S6 h15) (kqP (fun v16 h16 => ?_)))
          show Pt _ _ _ 48 _ [.int v16] _ _
          refine pt_d (pt_1 (fun n d => r_istoren (L' := [some (.ref 33), some (.int x1), some (.int v16), some (.int x3), some (.int v6)]) gx129_48 rfl rfl) ?_)
          refine pt_d (pt_iinc (c := 1) gx129_49 rfl z3 (fun v17 h17 => ?_))
          show Pt _ _ _ _ [some (.ref 33), some (.int x1), some (.int v16), some (.int v17), some (.int v6)] [] _ _
          refine pt_d (pt_1 (fun n d => r_goto gx129_52) ?_)
          exact H v16 v17 _ h16 h17
theorem g128_0 {n : Nat} {X : aX} {h : aH} {P : Int → aH → Prop} {x1 : Int32} {a1 : Int} (S : wS h) (z1 : x1.toInt = a1) (K129 : vt129 n X) (H : ((cpre (vw h) a1 ∧ vw h 33 13 = ((43 : Nat) : Int)) ∧ ∀ (y1 : Int) (h_1 : aH), (wS h_1 ∧ cRes 6 a1 (vw h) (vw h_1) ∧ vRes 6 a1 (vw h) y1 (vw h_1)) → (∀ (w2 : Int32) (w3 : Int32) (u4_ : Option Value), w2.toInt = y1 → w3.toInt = 0 → Pt n X zM128 8 [some (.ref 33), some (.int x1), some (.int w2), some (.int w3), u4_] [] h_1 (qI P)))) : Pt (n + 1) X zM128 0 [some (.ref 33), some (.int x1), none, none, none] [] h (qI P) := by
  refine pt_1 (fun n d => r_aloadn gx128_0 rfl) ?_
  refine pt_d (pt_1 (fun n d => r_iloadn gx128_1 rfl) ?_)
  obtain ⟨pr1, H⟩ := H
  refine pt_d (pt_virt (as := [.int x1]) (r := []) gx128_2 rfl (show zmt[129]? = some zM129 from rfl) rfl rfl rfl rfl (K129 S z1 pr1) (kqI (fun v1 y1 h_1 h1 P1 => ?_)))
  have S1 := P1.1
  have H := H y1 h_1 P1
  show Pt _ _ _ 5 _ [.int v1] _ _
  refine pt_d (pt_1 (fun n d => r_istoren (L' := [some (.ref 33), some (.int x1), some (.int v1), none, none]) gx128_5 rfl rfl) ?_)
  refine pt_d (pt_iconst gx128_6 (fun v2 h2 => ?_))
  refine pt_d (pt_1 (fun n d => r_istoren (L' := [some (.ref 33), some (.int x1), some (.int v1), some (.int v2), none]) gx128_7 rfl rfl) ?_)
  exact H v1 v2 _ h1 h2
theorem g128_8 {n : Nat} {X : aX} {h : aH} {P : Int → aH → Prop} {x1 x2 x3 : Int32} {a1 a2 a3 : Int} {u4 : Option Value} (S : wS h) (z1 : x1.toInt = a1) (z2 : x2.toInt = a2) (z3 : x3.toInt = a3) (K129 : vt129 n X) (H : ((160 ≤ a3 → P a2 h) ∧ (a3 < 160 → ((tIn (vw h) ∧ (0 : Int) ≤ 124 ∧ (124 : Int) ≤ 127) ∧ ∀ (y4 : Int) (h_4 : aH), (wS h_4 ∧ R125 (vw h) 124 y4 (vw h_4)) → ((y4 = 0 → P a2 h_4) ∧ (y4 ≠ 0 → ((cpre (vw h_4) a1 ∧ vw h_4 33 13 = ((43 : Nat) : Int)) ∧ ∀ (y6 : Int) (h_6 : aH), (wS h_6 ∧ cRes 6 a1 (vw h_4) (vw h_6) ∧ vRes 6 a1 (vw h_4) y6 (vw h_6)) → ((a2 ≠ 0 → (∀ (w2 : Int32) (w3 : Int32) (u4_ : Option Value), w2.toInt = (if (1 : Int) = 0 then 0 else 1) → w3.toInt = w32 (a3 + 1) → Pt n X zM128 8 [some (.ref 33), some (.int x1), some (.int w2), some (.int w3), u4_] [] h_6 (qI P))) ∧ (a2 = 0 → ((y6 = 0 → (∀ (w2 : Int32) (w3 : Int32) (u4_ : Option Value), w2.toInt = (if (0 : Int) = 0 then 0 else 1) → w3.toInt = w32 (a3 + 1) → Pt n X zM128 8 [some (.ref 33), some (.int x1), some (.int w2), some (.int w3), u4_] [] h_6 (qI P))) ∧ (y6 ≠ 0 → (∀ (w2 : Int32) (w3 : Int32) (u4_ : Option Value), w2.toInt = (if (1 : Int) = 0 then 0 else 1) → w3.toInt = w32 (a3 + 1) → Pt n X zM128 8 [some (.ref 33), some (.int x1), some (.int w2), some (.int w3), u4_] [] h_6 (qI P))))))))))))) : Pt (n + 1) X zM128 8 [some (.ref 33), some (.int x1), some (.int x2), some (.int x3), u4] [] h (qI P) := by
  refine pt_1 (fun n d => r_iloadn gx128_8 rfl) ?_
  refine pt_d (pt_sipush gx128_9 (fun v1 h1 => ?_))
  refine pt_d (pt_icmp_ge gx128_12 z3 h1 (fun e2 => ?_) (fun e2 => ?_))
  · have H := H.1 e2
    refine pt_d (pt_1 (fun n d => r_iloadn gx128_55 rfl) ?_)
    exact pt_d (pt_iret gx128_56 ⟨_, rfl, by rw [z2]; exact H⟩)
  · have H := H.2 e2
    refine pt_d (pt_1 (fun n d => r_aloadn gx128_15 rfl) ?_)
    refine pt_d (pt_bipush gx128_16 (fun v3 h3 => ?_))
    obtain ⟨pr4, H⟩ := H
    refine pt_d (pt_virt (as := [.int v3]) (r := []) gx128_18 rfl (show zmt[125]? = some zM125 from rfl) rfl rfl rfl rfl (c_125 S h3 pr4) (kqI (fun v4 y4 h_4 h4 P4 => ?_)))
    have S4 := P4.1
    have H := H y4 h_4 P4
    show Pt _ _ _ 21 _ [.int v4] _ _
    refine pt_d (pt_if_eq gx128_21 h4 (fun e5 => ?_) (fun e5 => ?_))
    · have H := H.1 e5
      refine pt_d (pt_1 (fun n d => r_iloadn gx128_55 rfl) ?_)
      exact pt_d (pt_iret gx128_56 ⟨_, rfl, by rw [z2]; exact H⟩)
    · have H := H.2 e5
      refine pt_d (pt_1 (fun n d => r_aloadn gx128_24 rfl) ?_)
      refine pt_d (pt_1 (fun n d => r_iloadn gx128_25 rfl) ?_)
      obtain ⟨pr6, H⟩ := H
      refine pt_d (pt_virt (as := [.int x1]) (r := []) gx128_26 rfl (show zmt[129]? = some zM129 from rfl) rfl rfl rfl rfl (K129 S4 z1 pr6) (kqI (fun v6 y6 h_6 h6 P6 => ?_)))
      have S6 := P6.1
      have H := H y6 h_6 P6
      show Pt _ _ _ 29 _ [.int v6] _ _
      refine pt_d (pt_1 (fun n d => r_istore (L' := [some (.ref 33), some (.int x1), some (.int x2), some (.int x3), some (.int v6)]) gx128_29 rfl rfl) ?_)
      refine pt_d (pt_1 (fun n d => r_iloadn gx128_31 rfl) ?_)
      refine pt_d (pt_if_ne gx128_32 z2 (fun e7 => ?_) (fun e7 => ?_))
      · have H := H.1 e7
        refine pt_d (pt_iconst gx128_40 (fun v8 h8 => ?_))
        refine pt_d (pt_1 (fun n d => r_goto gx128_41) ?_)
        refine pt_d (pt_stat (as := [.int v8]) (r := []) gx128_45 rfl (show zmt[127]? = some zM127 from rfl) rfl rfl rfl rfl (c_127 S6 h8) (kqP (fun v9 h9 => ?_)))
        show Pt _ _ _ 48 _ [.int v9] _ _
        refine pt_d (pt_1 (fun n d => r_istoren (L' := [some (.ref 33), some (.int x1), some (.int v9), some (.int x3), some (.int v6)]) gx128_48 rfl rfl) ?_)
        refine pt_d (pt_iinc (c := 1) gx128_49 rfl z3 (fun v10 h10 => ?_))
        show Pt _ _ _ _ [some (.ref 33), some (.int x1), some (.int v9), some (.int v10), some (.int v6)] [] _ _
        refine pt_d (pt_1 (fun n d => r_goto gx128_52) ?_)
        exact H v9 v10 _ h9 h10
      · have H := H.2 e7
        refine pt_d (pt_1 (fun n d => r_iload gx128_35 rfl) ?_)
        refine pt_d (pt_if_eq gx128_37 h6 (fun e11 => ?_) (fun e11 => ?_))
        · have H := H.1 e11
          refine pt_d (pt_iconst gx128_44 (fun v12 h12 => ?_))
          refine pt_d (pt_stat (as := [.int v12]) (r := []) gx128_45 rfl (show zmt[127]? = some zM127 from rfl) rfl rfl rfl rfl (c_127 S6 h12) (kqP (fun v13 h13 => ?_)))
          show Pt _ _ _ 48 _ [.int v13] _ _
          refine pt_d (pt_1 (fun n d => r_istoren (L' := [some (.ref 33), some (.int x1), some (.int v13), some (.int x3), some (.int v6)]) gx128_48 rfl rfl) ?_)
          refine pt_d (pt_iinc (c := 1) gx128_49 rfl z3 (fun v14 h14 => ?_))
          show Pt _ _ _ _ [some (.ref 33), some (.int x1), some (.int v13), some (.int v14), some (.int v6)] [] _ _
          refine pt_d (pt_1 (fun n d => r_goto gx128_52) ?_)
          exact H v13 v14 _ h13 h14
        · have H := H.2 e11
          refine pt_d (pt_iconst gx128_40 (fun v15 h15 => ?_))
          refine pt_d (pt_1 (fun n d => r_goto gx128_41) ?_)
          refine pt_d (pt_stat (as := [.int v15]) (r := []) gx128_45 rfl (show zmt[127]? = some zM127 from rfl) rfl rfl rfl rfl (c_127 S6 h15) (kqP (fun v16 h16 => ?_)))
          show Pt _ _ _ 48 _ [.int v16] _ _
          refine pt_d (pt_1 (fun n d => r_istoren (L' := [some (.ref 33), some (.int x1), some (.int v16), some (.int x3), some (.int v6)]) gx128_48 rfl rfl) ?_)
          refine pt_d (pt_iinc (c := 1) gx128_49 rfl z3 (fun v17 h17 => ?_))
          show Pt _ _ _ _ [some (.ref 33), some (.int x1), some (.int v16), some (.int v17), some (.int v6)] [] _ _
          refine pt_d (pt_1 (fun n d => r_goto gx128_52) ?_)
          exact H v16 v17 _ h16 h17
theorem g130_0 {n : Nat} {X : aX} {h : aH} {P : Int → aH → Prop} {x1 : Int32} {a1 : Int} (S : wS h) (z1 : x1.toInt = a1) (K131 : vt131 n X) (H : ((cpre (vw h) a1 ∧ vw h 33 13 = ((43 : Nat) : Int)) ∧ ∀ (y1 : Int) (h_1 : aH), (wS h_1 ∧ cRes 3 a1 (vw h) (vw h_1) ∧ vRes 3 a1 (vw h) y1 (vw h_1)) → ((tIn (vw h_1) ∧ (0 : Int) ≤ 60 ∧ (60 : Int) ≤ 127) ∧ ∀ (y3 : Int) (h_3 : aH), (wS h_3 ∧ R125 (vw h_1) 60 y3 (vw h_3)) → ((y3 = 0 → ((tIn (vw h_3) ∧ (0 : Int) ≤ 61 ∧ (61 : Int) ≤ 127) ∧ ∀ (y6 : Int) (h_6 : aH), (wS h_6 ∧ R125 (vw h_3) 61 y6 (vw h_6)) → ((y6 = 0 → ((tIn (vw h_6) ∧ (0 : Int) ≤ 62 ∧ (62 : Int) ≤ 127) ∧ ∀ (y9 : Int) (h_9 : aH), (wS h_9 ∧ R125 (vw h_6) 62 y9 (vw h_9)) → ((y9 = 0 → P y1 h_9) ∧ (y9 ≠ 0 → ((cpre (vw h_9) a1 ∧ vw h_9 33 13 = ((43 : Nat) : Int)) ∧ ∀ (y11 : Int) (h_11 : aH), (wS h_11 ∧ cRes 3 a1 (vw h_9) (vw h_11) ∧ vRes 3 a1 (vw h_9) y11 (vw h_11)) → ((y1 ≤ y11 → P (if (0 : Int) = 0 then 0 else 1) h_11) ∧ (y11 < y1 → P (if (1 : Int) = 0 then 0 else 1) h_11))))))) ∧ (y6 ≠ 0 → ((cpre (vw h_6) a1 ∧ vw h_6 33 13 = ((43 : Nat) : Int)) ∧ ∀ (y17 : Int) (h_17 : aH), (wS h_17 ∧ cRes 3 a1 (vw h_6) (vw h_17) ∧ vRes 3 a1 (vw h_6) y17 (vw h_17)) → ((y1 ≠ y17 → P (if (0 : Int) = 0 then 0 else 1) h_17) ∧ (y1 = y17 → P (if (1 : Int) = 0 then 0 else 1) h_17))))))) ∧ (y3 ≠ 0 → ((cpre (vw h_3) a1 ∧ vw h_3 33 13 = ((43 : Nat) : Int)) ∧ ∀ (y23 : Int) (h_23 : aH), (wS h_23 ∧ cRes 3 a1 (vw h_3) (vw h_23) ∧ vRes 3 a1 (vw h_3) y23 (vw h_23)) → ((y23 ≤ y1 → P (if (0 : Int) = 0 then 0 else 1) h_23) ∧ (y1 < y23 → P (if (1 : Int) = 0 then 0 else 1) h_23)))))))) : Pt (n + 1) X zM130 0 [some (.ref 33), some (.int x1), none] [] h (qI P) := by
  refine pt_1 (fun n d => r_aloadn gx130_0 rfl) ?_
  refine pt_d (pt_1 (fun n d => r_iloadn gx130_1 rfl) ?_)
  obtain ⟨pr1, H⟩ := H
  refine pt_d (pt_virt (as := [.int x1]) (r := []) gx130_2 rfl (show zmt[131]? = some zM131 from rfl) rfl rfl rfl rfl (K131 S z1 pr1) (kqI (fun v1 y1 h_1 h1 P1 => ?_)))
  have S1 := P1.1
  have H := H y1 h_1 P1
  show Pt _ _ _ 5 _ [.int v1] _ _
  refine pt_d (pt_1 (fun n d => r_istoren (L' := [some (.ref 33), some (.int x1), some (.int v1)]) gx130_5 rfl rfl) ?_)
  refine pt_d (pt_1 (fun n d => r_aloadn gx130_6 rfl) ?_)
  refine pt_d (pt_bipush gx130_7 (fun v2 h2 => ?_))
  obtain ⟨pr3, H⟩ := H
  refine pt_d (pt_virt (as := [.int v2]) (r := []) gx130_9 rfl (show zmt[125]? = some zM125 from rfl) rfl rfl rfl rfl (c_125 S1 h2 pr3) (kqI (fun v3 y3 h_3 h3 P3 => ?_)))
  have S3 := P3.1
  have H := H y3 h_3 P3
  show Pt _ _ _ 12 _ [.int v3] _ _
  refine pt_d (pt_if_eq gx130_12 h3 (fun e4 => ?_) (fun e4 => ?_))
  · have H := H.1 e4
    refine pt_d (pt_1 (fun n d => r_aloadn gx130_33 rfl) ?_)
    refine pt_d (pt_bipush gx130_34 (fun v5 h5 => ?_))
    obtain ⟨pr6, H⟩ := H
    refine pt_d (pt_virt (as := [.int v5]) (r := []) gx130_36 rfl (show zmt[125]? = some zM125 from rfl) rfl rfl rfl rfl (c_125 S3 h5 pr6) (kqI (fun v6 y6 h_6 h6 P6 => ?_)))
    have S6 := P6.1
    have H := H y6 h_6 P6
    show Pt _ _ _ 39 _ [.int v6] _ _
    refine pt_d (pt_if_eq gx130_39 h6 (fun e7 => ?_) (fun e7 => ?_))
    · have H := H.1 e7
      refine pt_d (pt_1 (fun n d => r_aloadn gx130_60 rfl) ?_)
      refine pt_d (pt_bipush gx130_61 (fun v8 h8 => ?_))
      obtain ⟨pr9, H⟩ := H
      refine pt_d (pt_virt (as := [.int v8]) (r := []) gx130_63 rfl (show zmt[125]? = some zM125 from rfl) rfl rfl rfl rfl (c_125 S6 h8 pr9) (kqI (fun v9 y9 h_9 h9 P9 => ?_)))
      have S9 := P9.1
      have H := H y9 h_9 P9
      show Pt _ _ _ 66 _ [.int v9] _ _
      refine pt_d (pt_if_eq gx130_66 h9 (fun e10 => ?_) (fun e10 => ?_))
      · have H := H.1 e10
        refine pt_d (pt_1 (fun n d => r_iloadn gx130_87 rfl) ?_)
        exact pt_d (pt_iret gx130_88 ⟨_, rfl, by rw [h1]; exact H⟩)
      · have H := H.2 e10
        refine pt_d (pt_1 (fun n d => r_iloadn gx130_69 rfl) ?_)
        refine pt_d (pt_1 (fun n d => r_aloadn gx130_70 rfl) ?_)
        refine pt_d (pt_1 (fun n d => r_iloadn gx130_71 rfl) ?_)
        obtain ⟨pr11, H⟩ := H
        refine pt_d (pt_virt (as := [.int x1]) (r := [.int v1]) gx130_72 rfl (show zmt[131]? = some zM131 from rfl) rfl rfl rfl rfl (K131 S9 z1 pr11) (kqI (fun v11 y11 h_11 h11 P11 => ?_)))
        have S11 := P11.1
        have H := H y11 h_11 P11
        show Pt _ _ _ 75 _ [.int v11, .int v1] _ _
        refine pt_d (pt_icmp_le gx130_75 h1 h11 (fun e12 => ?_) (fun e12 => ?_))
        · have H := H.1 e12
          refine pt_d (pt_iconst gx130_82 (fun v13 h13 => ?_))
          refine pt_d (pt_stat (as := [.int v13]) (r := []) gx130_83 rfl (show zmt[127]? = some zM127 from rfl) rfl rfl rfl rfl (c_127 S11 h13) (kqP (fun v14 h14 => ?_)))
          show Pt _ _ _ 86 _ [.int v14] _ _
          exact pt_d (pt_iret gx130_86 ⟨_, rfl, by rw [h14]; exact H⟩)
        · have H := H.2 e12
          refine pt_d (pt_iconst gx130_78 (fun v15 h15 => ?_))
          refine pt_d (pt_1 (fun n d => r_goto gx130_79) ?_)
          refine pt_d (pt_stat (as := [.int v15]) (r := []) gx130_83 rfl (show zmt[127]? = some zM127 from rfl) rfl rfl rfl rfl (c_127 S11 h15) (kqP (fun v16 h16 => ?_)))
          show Pt _ _ _ 86 _ [.int v16] _ _
          exact pt_d (pt_iret gx130_86 ⟨_, rfl, by rw [h16]; exact H⟩)
    · have H := H.2 e7
      refine pt_d (pt_1 (fun n d => r_iloadn gx130_42 rfl) ?_)
      refine pt_d (pt_1 (fun n d => r_aloadn gx130_43 rfl) ?_)
      refine pt_d (pt_1 (fun n d => r_iloadn gx130_44 rfl) ?_)
      obtain ⟨pr17, H⟩ := H
      refine pt_d (pt_virt (as := [.int x1]) (r := [.int v1]) gx130_45 rfl (show zmt[131]? = some zM131 from rfl) rfl rfl rfl rfl (K131 S6 z1 pr17) (kqI (fun v17 y17 h_17 h17 P17 => ?_)))
      have S17 := P17.1
      have H := H y17 h_17 P17
      show Pt _ _ _ 48 _ [.int v17, .int v1] _ _
      refine pt_d (pt_icmp_ne gx130_48 h1 h17 (fun e18 => ?_) (fun e18 => ?_))
      · have H := H.1 e18
        refine pt_d (pt_iconst gx130_55 (fun v19 h19 => ?_))
        refine pt_d (pt_stat (as := [.int v19]) (r := []) gx130_56 rfl (show zmt[127]? = some zM127 from rfl) rfl rfl rfl rfl (c_127 S17 h19) (kqP (fun v20 h20 => ?_)))
        show Pt _ _ _ 59 _ [.int v20] _ _
        exact pt_d (pt_iret gx130_59 ⟨_, rfl, by rw [h20]; exact H⟩)
      · have H := H.2 e18
        refine pt_d (pt_iconst gx130_51 (fun v21 h21 => ?_))
        refine pt_d (pt_1 (fun n d => r_goto gx130_52) ?_)
        refine pt_d (pt_stat (as := [.int v21]) (r := []) gx130_56 rfl (show zmt[127]? = some zM127 from rfl) rfl rfl rfl rfl (c_127 S17 h21) (kqP (fun v22 h22 => ?_)))
        show Pt _ _ _ 59 _ [.int v22] _ _
        exact pt_d (pt_iret gx130_59 ⟨_, rfl, by rw [h22]; exact H⟩)
  · have H := H.2 e4
    refine pt_d (pt_1 (fun n d => r_iloadn gx130_15 rfl) ?_)
    refine pt_d (pt_1 (fun n d => r_aloadn gx130_16 rfl) ?_)
    refine pt_d (pt_1 (fun n d => r_iloadn gx130_17 rfl) ?_)
    obtain ⟨pr23, H⟩ := H
    refine pt_d (pt_virt (as := [.int x1]) (r := [.int v1]) gx130_18 rfl (show zmt[131]? = some zM131 from rfl) rfl rfl rfl rfl (K131 S3 z1 pr23) (kqI (fun v23 y23 h_23 h23 P23 => ?_)))
    have S23 := P23.1
    have H := H y23 h_23 P23
    show Pt _ _ _ 21 _ [.int v23, .int v1] _ _
    refine pt_d (pt_icmp_ge gx130_21 h1 h23 (fun e24 => ?_) (fun e24 => ?_))
    · have H := H.1 e24
      refine pt_d (pt_iconst gx130_28 (fun v25 h25 => ?_))
      refine pt_d (pt_stat (as := [.int v25]) (r := []) gx130_29 rfl (show zmt[127]? = some zM127 from rfl) rfl rfl rfl rfl (c_127 S23 h25) (kqP (fun v26 h26 => ?_)))
      show Pt _ _ _ 32 _ [.int v26] _ _
      exact pt_d (pt_iret gx130_32 ⟨_, rfl, by rw [h26]; exact H⟩)
    · have H := H.2 e24
      refine pt_d (pt_iconst gx130_24 (fun v27 h27 => ?_))
      refine pt_d (pt_1 (fun n d => r_goto gx130_25) ?_)
      refine pt_d (pt_stat (as := [.int v27]) (r := []) gx130_29 rfl (show zmt[127]? = some zM127 from rfl) rfl rfl rfl rfl (c_127 S23 h27) (kqP (fun v28 h28 => ?_)))
      show Pt _ _ _ 32 _ [.int v28] _ _
      exact pt_d (pt_iret gx130_32 ⟨_, rfl, by rw [h28]; exact H⟩)
theorem ev_132 {n : Nat} {X : aX} (C : ct132 (n + 1) X) (K : vt133 n X) (KL : vl132 n X) : vt132 (n + 1) X := by
  intro h x1 a1 S z1 hp
  refine pt_q (pt_and (C S z1 hp.1) (show Pt (n + 1) X zM132 0 [some (.ref 33), some (.int x1), none, none, none] [] h (qI (fun r h' => vRes 1 a1 (vw h) r (vw h'))) from ?_)) ?_
  · refine g132_0 S z1 K ⟨hp, fun y1 h1 k1 w2 w3 u4 g2 g3 => ?_⟩
    obtain ⟨I1, i1⟩ := cR_i hp.1.1 k1.2.1
    have b0 := hp.1.1.1
    refine pt_q (KL k1.1 z1 g2 g3 I1 hp.1.2.2.1 hp.1.2.2.2 (Int.le_refl _) (by omega) ((c13 k1.2.1).trans hp.2)) ?_
    rintro v h' ⟨x, ex, p⟩
    exact ⟨x, ex, v_seq ksq1 hp.1.2.1 k1.2.2 p⟩
  · rintro v h' ⟨⟨x, rfl, p1, p2⟩, ⟨x', ev, p3⟩⟩
    exact ⟨x', ev, p1, p2, p3⟩
theorem fv_132 {n : Nat} {X : aX} (K : vt133 n X) (KL : vl132 n X) : vl132 (n + 1) X := by
  intro h x1 x2 x3 u4 a1 a2 a3 S z1 z2 z3 I o0 o1 i0 i1 n13
  have bI := I.1
  have bI2 := I.2.1
  have go : ∀ (c y4 : Int) (h4 : aH), opB 2 c = true → (c ≠ 1 ∧ c ≠ 2 ∧ c ≠ 3 ∧ c ≠ 4) → R125 (vw h) c y4 (vw h4) → y4 ≠ 0 → (cpre (vw h4) a1 ∧ vw h4 33 13 = ((43 : Nat) : Int)) ∧ ∀ (y : Int) (h12 : aH), (wS h12 ∧ cRes 0 a1 (vw h4) (vw h12) ∧ vRes 0 a1 (vw h4) y (vw h12)) → ∀ (w2 w3 : Int32) (u4 : Option Value), w2.toInt = bo c a2 y → w3.toInt = w32 (a3 + 1) → Pt n X zM132 8 [some (.ref 33), some (.int x1), some (.int w2), some (.int w3), u4] [] h12 (qI (fun r h' => vLo 2 a1 (vw h) a2 r (vw h'))) := by
    intro c y4 h4 hc nb k4 e4
    obtain ⟨I4, e12, e11⟩ := tk_i I k4 e4
    have m13 := (k13 k4).trans n13
    refine ⟨⟨⟨I4, e12, o0, o1⟩, m13⟩, fun y h12 k w2 w3 u4 g2 g3 => ?_⟩
    obtain ⟨S12, c1, v1⟩ := k
    obtain ⟨I12, j12⟩ := cR_i I4 c1
    replace g3 := w_1 g3 (by omega) (by omega)
    refine pt_q (KL S12 z1 g2 g3 I12 o0 o1 (by omega) (by omega) ((c13 c1).trans m13)) ?_
    rintro v h' ⟨x, ex, p⟩
    exact ⟨x, ex, v_step klp2 k4 e4 hc nb v1 rfl p⟩
  refine g132_8 S z1 z2 z3 K ⟨fun e => v_out klp2 (fun _ => by rw [at_end I e i1]; rfl), fun e => ⟨⟨I, by decide, by decide⟩, fun y0 h0 k0 => ?_⟩⟩
  have r0 := k0.2
  refine ⟨fun e0 => ⟨⟨by rw [(tk_0 r0 e0).1]; exact I, by decide, by decide⟩, fun y1 h1 k1 => ?_⟩, fun e0 => ⟨(go 42 y0 h0 rfl (by decide) r0 e0).1, fun y h9 k => fun w2 w3 u4 g2 g3 => (go 42 y0 h0 rfl (by decide) r0 e0).2 _ _ k w2 w3 u4 (by rw [g2, bo_42]) g3⟩⟩
  obtain ⟨v0, n0⟩ := tk_0 r0 e0
  have r1 : R125 (vw h) 47 y1 (vw h1) := by rw [← v0]; exact k1.2
  refine ⟨fun e1 => ⟨⟨by rw [(tk_0 r1 e1).1]; exact I, by decide, by decide⟩, fun y2 h2 k2 => ?_⟩, fun e1 => ⟨(go 47 y1 h1 rfl (by decide) r1 e1).1, fun y h9 k => ⟨fun z => fun w2 w3 u4 g2 g3 => (go 47 y1 h1 rfl (by decide) r1 e1).2 _ _ k w2 w3 u4 (by rw [g2, bo_47, if_neg z]) g3, fun z => fun w2 w3 u4 g2 g3 => (go 47 y1 h1 rfl (by decide) r1 e1).2 _ _ k w2 w3 u4 (by rw [g2, bo_47, if_pos z]) g3⟩⟩⟩
  obtain ⟨v1, n1⟩ := tk_0 r1 e1
  have r2 : R125 (vw h) 37 y2 (vw h2) := by rw [← v1]; exact k2.2
  refine ⟨fun e2 => ?_, fun e2 => ⟨(go 37 y2 h2 rfl (by decide) r2 e2).1, fun y h9 k => ⟨fun z => fun w2 w3 u4 g2 g3 => (go 37 y2 h2 rfl (by decide) r2 e2).2 _ _ k w2 w3 u4 (by rw [g2, bo_37, if_neg z]) g3, fun z => fun w2 w3 u4 g2 g3 => (go 37 y2 h2 rfl (by decide) r2 e2).2 _ _ k w2 w3 u4 (by rw [g2, bo_37, if_pos z]) g3⟩⟩⟩
  obtain ⟨v2, n2⟩ := tk_0 r2 e2
  rw [v2]
  exact v_out klp2 (fun e12 => by show (((_ == 42 || _ == 47) || _ == 37)) = false; rw [beq_false_of_ne (n0 e12), beq_false_of_ne (n1 e12), beq_false_of_ne (n2 e12)]; rfl)
theorem ev_131 {n : Nat} {X : aX} (C : ct131 (n + 1) X) (K : vt132 n X) (KL : vl131 n X) : vt131 (n + 1) X := by
  intro h x1 a1 S z1 hp
  refine pt_q (pt_and (C S z1 hp.1) (show Pt (n + 1) X zM131 0 [some (.ref 33), some (.int x1), none, none] [] h (qI (fun r h' => vRes 3 a1 (vw h) r (vw h'))) from ?_)) ?_
  · refine g131_0 S z1 K ⟨hp, fun y1 h1 k1 w2 w3 g2 g3 => ?_⟩
    obtain ⟨I1, i1⟩ := cR_i hp.1.1 k1.2.1
    have b0 := hp.1.1.1
    refine pt_q (KL k1.1 z1 g2 g3 I1 hp.1.2.2.1 hp.1.2.2.2 (Int.le_refl _) (by omega) ((c13 k1.2.1).trans hp.2)) ?_
    rintro v h' ⟨x, ex, p⟩
    exact ⟨x, ex, v_seq ksq3 hp.1.2.1 k1.2.2 p⟩
  · rintro v h' ⟨⟨x, rfl, p1, p2⟩, ⟨x', ev, p3⟩⟩
    exact ⟨x', ev, p1, p2, p3⟩
theorem fv_131 {n : Nat} {X : aX} (K : vt132 n X) (KL : vl131 n X) : vl131 (n + 1) X := by
  intro h x1 x2 x3 a1 a2 a3 S z1 z2 z3 I o0 o1 i0 i1 n13
  have bI := I.1
  have bI2 := I.2.1
  have go : ∀ (c y4 : Int) (h4 : aH), opB 4 c = true → (c ≠ 1 ∧ c ≠ 2 ∧ c ≠ 3 ∧ c ≠ 4) → R125 (vw h) c y4 (vw h4) → y4 ≠ 0 → (cpre (vw h4) a1 ∧ vw h4 33 13 = ((43 : Nat) : Int)) ∧ ∀ (y : Int) (h12 : aH), (wS h12 ∧ cRes 1 a1 (vw h4) (vw h12) ∧ vRes 1 a1 (vw h4) y (vw h12)) → ∀ (w2 w3 : Int32), w2.toInt = bo c a2 y → w3.toInt = w32 (a3 + 1) → Pt n X zM131 8 [some (.ref 33), some (.int x1), some (.int w2), some (.int w3)] [] h12 (qI (fun r h' => vLo 4 a1 (vw h) a2 r (vw h'))) := by
    intro c y4 h4 hc nb k4 e4
    obtain ⟨I4, e12, e11⟩ := tk_i I k4 e4
    have m13 := (k13 k4).trans n13
    refine ⟨⟨⟨I4, e12, o0, o1⟩, m13⟩, fun y h12 k w2 w3 g2 g3 => ?_⟩
    obtain ⟨S12, c1, v1⟩ := k
    obtain ⟨I12, j12⟩ := cR_i I4 c1
    replace g3 := w_1 g3 (by omega) (by omega)
    refine pt_q (KL S12 z1 g2 g3 I12 o0 o1 (by omega) (by omega) ((c13 c1).trans m13)) ?_
    rintro v h' ⟨x, ex, p⟩
    exact ⟨x, ex, v_step klp4 k4 e4 hc nb v1 rfl p⟩
  refine g131_8 S z1 z2 z3 K ⟨fun e => v_out klp4 (fun _ => by rw [at_end I e i1]; rfl), fun e => ⟨⟨I, by decide, by decide⟩, fun y0 h0 k0 => ?_⟩⟩
  have r0 := k0.2
  refine ⟨fun e0 => ⟨⟨by rw [(tk_0 r0 e0).1]; exact I, by decide, by decide⟩, fun y1 h1 k1 => ?_⟩, fun e0 => ⟨(go 43 y0 h0 rfl (by decide) r0 e0).1, fun y h9 k => fun w2 w3 g2 g3 => (go 43 y0 h0 rfl (by decide) r0 e0).2 _ _ k w2 w3 (by rw [g2, bo_43]) g3⟩⟩
  obtain ⟨v0, n0⟩ := tk_0 r0 e0
  have r1 : R125 (vw h) 45 y1 (vw h1) := by rw [← v0]; exact k1.2
  refine ⟨fun e1 => ?_, fun e1 => ⟨(go 45 y1 h1 rfl (by decide) r1 e1).1, fun y h9 k => fun w2 w3 g2 g3 => (go 45 y1 h1 rfl (by decide) r1 e1).2 _ _ k w2 w3 (by rw [g2, bo_45]) g3⟩⟩
  obtain ⟨v1, n1⟩ := tk_0 r1 e1
  rw [v1]
  exact v_out klp4 (fun e12 => by show ((_ == 43 || _ == 45)) = false; rw [beq_false_of_ne (n0 e12), beq_false_of_ne (n1 e12)]; rfl)
theorem ev_129 {n : Nat} {X : aX} (C : ct129 (n + 1) X) (K : vt130 n X) (KL : vl129 n X) : vt129 (n + 1) X := by
  intro h x1 a1 S z1 hp
  refine pt_q (pt_and (C S z1 hp.1) (show Pt (n + 1) X zM129 0 [some (.ref 33), some (.int x1), none, none, none] [] h (qI (fun r h' => vRes 6 a1 (vw h) r (vw h'))) from ?_)) ?_
  · refine g129_0 S z1 K ⟨hp, fun y1 h1 k1 w2 w3 u4 g2 g3 => ?_⟩
    obtain ⟨I1, i1⟩ := cR_i hp.1.1 k1.2.1
    have b0 := hp.1.1.1
    refine pt_q (KL k1.1 z1 g2 g3 I1 hp.1.2.2.1 hp.1.2.2.2 (Int.le_refl _) (by omega) ((c13 k1.2.1).trans hp.2)) ?_
    rintro v h' ⟨x, ex, p⟩
    exact ⟨x, ex, v_seq ksq6 hp.1.2.1 k1.2.2 p⟩
  · rintro v h' ⟨⟨x, rfl, p1, p2⟩, ⟨x', ev, p3⟩⟩
    exact ⟨x', ev, p1, p2, p3⟩
theorem fv_129 {n : Nat} {X : aX} (K : vt130 n X) (KL : vl129 n X) : vl129 (n + 1) X := by
  intro h x1 x2 x3 u4 a1 a2 a3 S z1 z2 z3 I o0 o1 i0 i1 n13
  have bI := I.1
  have bI2 := I.2.1
  have go : ∀ (c y4 : Int) (h4 : aH), opB 7 c = true → (c ≠ 1 ∧ c ≠ 2 ∧ c ≠ 3 ∧ c ≠ 4) → R125 (vw h) c y4 (vw h4) → y4 ≠ 0 → (cpre (vw h4) a1 ∧ vw h4 33 13 = ((43 : Nat) : Int)) ∧ ∀ (y : Int) (h12 : aH), (wS h12 ∧ cRes 5 a1 (vw h4) (vw h12) ∧ vRes 5 a1 (vw h4) y (vw h12)) → ∀ (w2 w3 : Int32) (u4 : Option Value), w2.toInt = bo c a2 y → w3.toInt = w32 (a3 + 1) → Pt n X zM129 8 [some (.ref 33), some (.int x1), some (.int w2), some (.int w3), u4] [] h12 (qI (fun r h' => vLo 7 a1 (vw h) a2 r (vw h'))) := by
    intro c y4 h4 hc nb k4 e4
    obtain ⟨I4, e12, e11⟩ := tk_i I k4 e4
    have m13 := (k13 k4).trans n13
    refine ⟨⟨⟨I4, e12, o0, o1⟩, m13⟩, fun y h12 k w2 w3 u4 g2 g3 => ?_⟩
    obtain ⟨S12, c1, v1⟩ := k
    obtain ⟨I12, j12⟩ := cR_i I4 c1
    replace g3 := w_1 g3 (by omega) (by omega)
    refine pt_q (KL S12 z1 g2 g3 I12 o0 o1 (by omega) (by omega) ((c13 c1).trans m13)) ?_
    rintro v h' ⟨x, ex, p⟩
    exact ⟨x, ex, v_step klp7 k4 e4 hc nb v1 rfl p⟩
  refine g129_8 S z1 z2 z3 K ⟨fun e => v_out klp7 (fun _ => by rw [at_end I e i1]; rfl), fun e => ⟨⟨I, by decide, by decide⟩, fun y0 h0 k0 => ?_⟩⟩
  have r0 := k0.2
  refine ⟨fun e0 => ?_, fun e0 => ⟨(go 38 y0 h0 rfl (by decide) r0 e0).1, fun y h9 k => ⟨fun z => fun w2 w3 u4 g2 g3 => (go 38 y0 h0 rfl (by decide) r0 e0).2 _ _ k w2 w3 u4 (by rw [g2, i01, bo_38, bI_f (fun w => w.1 z)]) g3, fun z => ⟨fun z2 => fun w2 w3 u4 g2 g3 => (go 38 y0 h0 rfl (by decide) r0 e0).2 _ _ k w2 w3 u4 (by rw [g2, i01, bo_38, bI_f (fun w => w.2 z2)]) g3, fun z2 => fun w2 w3 u4 g2 g3 => (go 38 y0 h0 rfl (by decide) r0 e0).2 _ _ k w2 w3 u4 (by rw [g2, i11, bo_38, bI_t ⟨z, z2⟩]) g3⟩⟩⟩⟩
  obtain ⟨v0, n0⟩ := tk_0 r0 e0
  rw [v0]
  exact v_out klp7 (fun e12 => by show (_ == 38) = false; rw [beq_false_of_ne (n0 e12)])
theorem ev_128 {n : Nat} {X : aX} (C : ct128 (n + 1) X) (K : vt129 n X) (KL : vl128 n X) : vt128 (n + 1) X := by
  intro h x1 a1 S z1 hp
  refine pt_q (pt_and (C S z1 hp.1) (show Pt (n + 1) X zM128 0 [some (.ref 33), some (.int x1), none, none, none] [] h (qI (fun r h' => vRes 8 a1 (vw h) r (vw h'))) from ?_)) ?_
  · refine g128_0 S z1 K ⟨hp, fun y1 h1 k1 w2 w3 u4 g2 g3 => ?_⟩
    obtain ⟨I1, i1⟩ := cR_i hp.1.1 k1.2.1
    have b0 := hp.1.1.1
    refine pt_q (KL k1.1 z1 g2 g3 I1 hp.1.2.2.1 hp.1.2.2.2 (Int.le_refl _) (by omega) ((c13 k1.2.1).trans hp.2)) ?_
    rintro v h' ⟨x, ex, p⟩
    exact ⟨x, ex, v_seq ksq8 hp.1.2.1 k1.2.2 p⟩
  · rintro v h' ⟨⟨x, rfl, p1, p2⟩, ⟨x', ev, p3⟩⟩
    exact ⟨x', ev, p1, p2, p3⟩
theorem fv_128 {n : Nat} {X : aX} (K : vt129 n X) (KL : vl128 n X) : vl128 (n + 1) X := by
  intro h x1 x2 x3 u4 a1 a2 a3 S z1 z2 z3 I o0 o1 i0 i1 n13
  have bI := I.1
  have bI2 := I.2.1
  have go : ∀ (c y4 : Int) (h4 : aH), opB 9 c = true → (c ≠ 1 ∧ c ≠ 2 ∧ c ≠ 3 ∧ c ≠ 4) → R125 (vw h) c y4 (vw h4) → y4 ≠ 0 → (cpre (vw h4) a1 ∧ vw h4 33 13 = ((43 : Nat) : Int)) ∧ ∀ (y : Int) (h12 : aH), (wS h12 ∧ cRes 6 a1 (vw h4) (vw h12) ∧ vRes 6 a1 (vw h4) y (vw h12)) → ∀ (w2 w3 : Int32) (u4 : Option Value), w2.toInt = bo c a2 y → w3.toInt = w32 (a3 + 1) → Pt n X zM128 8 [some (.ref 33), some (.int x1), some (.int w2), some (.int w3), u4] [] h12 (qI (fun r h' => vLo 9 a1 (vw h) a2 r (vw h'))) := by
    intro c y4 h4 hc nb k4 e4
    obtain ⟨I4, e12, e11⟩ := tk_i I k4 e4
    have m13 := (k13 k4).trans n13
    refine ⟨⟨⟨I4, e12, o0, o1⟩, m13⟩, fun y h12 k w2 w3 u4 g2 g3 => ?_⟩
    obtain ⟨S12, c1, v1⟩ := k
    obtain ⟨I12, j12⟩ := cR_i I4 c1
    replace g3 := w_1 g3 (by omega) (by omega)
    refine pt_q (KL S12 z1 g2 g3 I12 o0 o1 (by omega) (by omega) ((c13 c1).trans m13)) ?_
    rintro v h' ⟨x, ex, p⟩
    exact ⟨x, ex, v_step klp9 k4 e4 hc nb v1 rfl p⟩
  refine g128_8 S z1 z2 z3 K ⟨fun e => v_out klp9 (fun _ => by rw [at_end I e i1]; rfl), fun e => ⟨⟨I, by decide, by decide⟩, fun y0 h0 k0 => ?_⟩⟩
  have r0 := k0.2
  refine ⟨fun e0 => ?_, fun e0 => ⟨(go 124 y0 h0 rfl (by decide) r0 e0).1, fun y h9 k => ⟨fun z => fun w2 w3 u4 g2 g3 => (go 124 y0 h0 rfl (by decide) r0 e0).2 _ _ k w2 w3 u4 (by rw [g2, i11, bo_124, bI_t (Or.inl z)]) g3, fun z => ⟨fun z2 => fun w2 w3 u4 g2 g3 => (go 124 y0 h0 rfl (by decide) r0 e0).2 _ _ k w2 w3 u4 (by rw [g2, i01, bo_124, bI_f (fun w => w.elim (fun w => w z) (fun w => w z2))]) g3, fun z2 => fun w2 w3 u4 g2 g3 => (go 124 y0 h0 rfl (by decide) r0 e0).2 _ _ k w2 w3 u4 (by rw [g2, i11, bo_124, bI_t (Or.inr z2)]) g3⟩⟩⟩⟩
  obtain ⟨v0, n0⟩ := tk_0 r0 e0
  rw [v0]
  exact v_out klp9 (fun e12 => by show (_ == 124) = false; rw [beq_false_of_ne (n0 e12)])

-- ===== 82zyzga.say: 5 texts =====
section
-- ===== the class works a text out =====
def vRes (t : Nat) (o : Int) (V : vS) (r : Int) (V' : vS) : Prop := ∀ q L, Cd (cTx V) t o (V 33 11) q L → V' = up V 33 11 q ∧ ∀ st, run (fun j => V 43 j) L st = r :: st
def vLo (t : Nat) (o : Int) (V : vS) (a r : Int) (V' : vS) : Prop := V 33 12 = -1 → ∀ q L, Cd (cTx V) t o (V 33 11) q L → V' = up V 33 11 q ∧ ∀ st, run (fun j => V 43 j) L (a :: st) = r :: st
theorem v_st {V V1 : vS} {q : Int} (e : V1 = up V 33 11 q) : cTx V1 = cTx V ∧ V1 33 11 = q ∧ V1 33 12 = V 33 12 ∧ (fun j => V1 43 j) = fun j => V 43 j := by
  subst e
  refine ⟨cT_u V q, up_s _ _ _ _, up_j (by decide), ?_⟩
  funext j
  exact up_c (by decide)
theorem stp_b {N : Int → Int} {c x a b : Int} {st : List Int} (h : c ≠ 1 ∧ c ≠ 2 ∧ c ≠ 3 ∧ c ≠ 4) : stpP N c x (b :: a :: st) = bo c a b :: st := by
  unfold stpP
  rw [if_neg h.1, if_neg h.2.1]
  dsimp only
  rw [if_neg h.2.2.1, if_neg h.2.2.2]
theorem run_c (N : Int → Int) (w x : Int) (L : List (Int × Int)) (st : List Int) : run N ((w, x) :: L) st = run N L (stpP N w x st) := rfl
section VV
variable {t t1 t2 : Nat} {o : Int} {V V1 V4 V' : vS}
theorem v_seq {y r : Int} (S : seqC t t1 t2) (e12 : V 33 12 = -1) (c1 : vRes t1 o V y V1) (c2 : vLo t2 o V1 y r V') : vRes t o V r V' := by
  intro q L d
  obtain ⟨q1, L1, L2, d1, d2, rfl⟩ := kq_x S d
  obtain ⟨e1, r1⟩ := c1 q1 L1 d1
  obtain ⟨s1, s2, s3, s4⟩ := v_st e1
  obtain ⟨e2, r2⟩ := c2 (s3.trans e12) q L2 (by rw [s1, s2]; exact d2)
  refine ⟨by rw [e2, e1, up_up], fun st => ?_⟩
  rw [run_a, r1, ← s4]
  exact r2 st
theorem v_out {a : Int} (S : lopC t t1) (h : V 33 12 = -1 → opB t (cTx V (V 33 11)) = false) : vLo t o V a a V := fun e q L d => by
  rcases kl_x S d with ⟨-, rfl, rfl⟩ | ⟨z, -⟩
  · exact ⟨(up_id _ _ _).symm, fun st => rfl⟩
  · rw [h e] at z
    cases z
theorem v_step {c y y1 a a' r : Int} (S : lopC t t1) (k : R125 V c y V4) (hy : y ≠ 0) (hc : opB t c = true) (nb : c ≠ 1 ∧ c ≠ 2 ∧ c ≠ 3 ∧ c ≠ 4) (c1 : vRes t1 o V4 y1 V1) (ea : a' = bo c a y1) (c2 : vLo t o V1 a' r V') : vLo t o V a r V' := by
  intro e q L d
  obtain ⟨⟨k1, k2, k3⟩, k4⟩ := tk_1 k hy
  obtain ⟨u1, u2, u3, u4⟩ := v_st k4
  rcases kl_x S d with ⟨z, -⟩ | ⟨-, q1, L1, L2, d1, d2, rfl⟩
  · rw [k2, hc] at z
    cases z
  · obtain ⟨e1, r1⟩ := c1 q1 L1 (by rw [u1, u2]; exact d1)
    obtain ⟨s1, s2, s3, s4⟩ := v_st e1
    obtain ⟨e2, r2⟩ := c2 (s3.trans (u3.trans e)) q L2 (by rw [s1, u1, s2]; exact d2)
    refine ⟨by rw [e2, e1, k4, up_up, up_up], fun st => ?_⟩
    have r1' := r1 (a :: st)
    have r2' := r2 st
    rw [u4] at r1'
    rw [s4, u4] at r2'
    rw [run_a, r1', run_c, k2, stp_b nb, ← ea]
    exact r2'
theorem c13 {t : Nat} (c : cRes t o V V') : V' 33 13 = V 33 13 := by
  obtain ⟨q, f, a, g, -, e, -⟩ := c
  rw [e, up_j (by decide), up_j (by decide)]
theorem k13 {c y : Int} (k : R125 V c y V') : V' 33 13 = V 33 13 := by
  rcases k with ⟨-, e, -⟩ | ⟨-, -, e⟩
  · rw [e]
  · rw [e, up_j (by decide)]
end VV
theorem bo_42 (a b : Int) : bo 42 a b = w32 (a * b) := rfl
theorem bo_47 (a b : Int) : bo 47 a b = if b = 0 then 0 else iDiv a b := rfl
theorem bo_37 (a b : Int) : bo 37 a b = if b = 0 then 0 else iRem a b := rfl
theorem bo_43 (a b : Int) : bo 43 a b = w32 (a + b) := rfl
theorem bo_45 (a b : Int) : bo 45 a b = w32 (a - b) := rfl
theorem bo_60 (a b : Int) : bo 60 a b = bI (a < b) := rfl
theorem bo_61 (a b : Int) : bo 61 a b = bI (a = b) := rfl
theorem bo_62 (a b : Int) : bo 62 a b = bI (b < a) := rfl
theorem bo_38 (a b : Int) : bo 38 a b = bI (a ≠ 0 ∧ b ≠ 0) := rfl
theorem bo_124 (a b : Int) : bo 124 a b = bI (a ≠ 0 ∨ b ≠ 0) := rfl
theorem i01 : (if (0 : Int) = 0 then (0 : Int) else 1) = 0 := rfl
theorem i11 : (if (1 : Int) = 0 then (0 : Int) else 1) = 1 := rfl

abbrev vt133 (n : Nat) (X : aX) : Prop := ∀ {h : aH} {x1 : Int32} {a1 : Int}, wS h → x1.toInt = a1 → (cpre (vw h) a1 ∧ vw h 33 13 = ((43 : Nat) : Int)) → Pt n X zM133 0 [some (.ref 33), some (.int x1), none, none, none] [] h (qI (fun r h' => wS h' ∧ cRes 0 a1 (vw h) (vw h') ∧ vRes 0 a1 (vw h) r (vw h')))
abbrev vt132 (n : Nat) (X : aX) : Prop := ∀ {h : aH} {x1 : Int32} {a1 : Int}, wS h → x1.toInt = a1 → (cpre (vw h) a1 ∧ vw h 33 13 = ((43 : Nat) : Int)) → Pt n X zM132 0 [some (.ref 33), some (.int x1), none, none, none] [] h (qI (fun r h' => wS h' ∧ cRes 1 a1 (vw h) (vw h') ∧ vRes 1 a1 (vw h) r (vw h')))
abbrev vt131 (n : Nat) (X : aX) : Prop := ∀ {h : aH} {x1 : Int32} {a1 : Int}, wS h → x1.toInt = a1 → (cpre (vw h) a1 ∧ vw h 33 13 = ((43 : Nat) : Int)) → Pt n X zM131 0 [some (.ref 33), some (.int x1), none, none] [] h (qI (fun r h' => wS h' ∧ cRes 3 a1 (vw h) (vw h') ∧ vRes 3 a1 (vw h) r (vw h')))
abbrev vt130 (n : Nat) (X : aX) : Prop := ∀ {h : aH} {x1 : Int32} {a1 : Int}, wS h → x1.toInt = a1 → (cpre (vw h) a1 ∧ vw h 33 13 = ((43 : Nat) : Int)) → Pt n X zM130 0 [some (.ref 33), some (.int x1), none] [] h (qI (fun r h' => wS h' ∧ cRes 5 a1 (vw h) (vw h') ∧ vRes 5 a1 (vw h) r (vw h')))
abbrev vt129 (n : Nat) (X : aX) : Prop := ∀ {h : aH} {x1 : Int32} {a1 : Int}, wS h → x1.toInt = a1 → (cpre (vw h) a1 ∧ vw h 33 13 = ((43 : Nat) : Int)) → Pt n X zM129 0 [some (.ref 33), some (.int x1), none, none, none] [] h (qI (fun r h' => wS h' ∧ cRes 6 a1 (vw h) (vw h') ∧ vRes 6 a1 (vw h) r (vw h')))
abbrev vt128 (n : Nat) (X : aX) : Prop := ∀ {h : aH} {x1 : Int32} {a1 : Int}, wS h → x1.toInt = a1 → (cpre (vw h) a1 ∧ vw h 33 13 = ((43 : Nat) : Int)) → Pt n X zM128 0 [some (.ref 33), some (.int x1), none, none, none] [] h (qI (fun r h' => wS h' ∧ cRes 8 a1 (vw h) (vw h') ∧ vRes 8 a1 (vw h) r (vw h')))
abbrev vl132 (n : Nat) (X : aX) : Prop := ∀ {h : aH} {x1 x2 x3 : Int32} {u4 : Option Value} {a1 a2 a3 : Int}, wS h → x1.toInt = a1 → x2.toInt = a2 → x3.toInt = a3 → tIn (vw h) → 0 ≤ a1 → a1 ≤ 8 → 0 ≤ a3 → a3 ≤ vw h 33 11 → vw h 33 13 = ((43 : Nat) : Int) → Pt n X zM132 8 [some (.ref 33), some (.int x1), some (.int x2), some (.int x3), u4] [] h (qI (fun r h' => vLo 2 a1 (vw h) a2 r (vw h')))
abbrev vl131 (n : Nat) (X : aX) : Prop := ∀ {h : aH} {x1 x2 x3 : Int32} {a1 a2 a3 : Int}, wS h → x1.toInt = a1 → x2.toInt = a2 → x3.toInt = a3 → tIn (vw h) → 0 ≤ a1 → a1 ≤ 8 → 0 ≤ a3 → a3 ≤ vw h 33 11 → vw h 33 13 = ((43 : Nat) : Int) → Pt n X zM131 8 [some (.ref 33), some (.int x1), some (.int x2), some (.int x3)] [] h (qI (fun r h' => vLo 4 a1 (vw h) a2 r (vw h')))
abbrev vl129 (n : Nat) (X : aX) : Prop := ∀ {h : aH} {x1 x2 x3 : Int32} {u4 : Option Value} {a1 a2 a3 : Int}, wS h → x1.toInt = a1 → x2.toInt = a2 → x3.toInt = a3 → tIn (vw h) → 0 ≤ a1 → a1 ≤ 8 → 0 ≤ a3 → a3 ≤ vw h 33 11 → vw h 33 13 = ((43 : Nat) : Int) → Pt n X zM129 8 [some (.ref 33), some (.int x1), some (.int x2), some (.int x3), u4] [] h (qI (fun r h' => vLo 7 a1 (vw h) a2 r (vw h')))
abbrev vl128 (n : Nat) (X : aX) : Prop := ∀ {h : aH} {x1 x2 x3 : Int32} {u4 : Option Value} {a1 a2 a3 : Int}, wS h → x1.toInt = a1 → x2.toInt = a2 → x3.toInt = a3 → tIn (vw h) → 0 ≤ a1 → a1 ≤ 8 → 0 ≤ a3 → a3 ≤ vw h 33 11 → vw h 33 13 = ((43 : Nat) : Int) → Pt n X zM128 8 [some (.ref 33), some (.int x1), some (.int x2), some (.int x3), u4] [] h (qI (fun r h' => vLo 9 a1 (vw h) a2 r (vw h')))
theorem g132_0 {n : Nat} {X : aX} {h : aH} {P : Int → aH → Prop} {x1 : Int32} {a1 : Int} (S : wS h) (z1 : x1.toInt = a1) (K133 : vt133 n X) (H : ((cpre (vw h) a1 ∧ vw h 33 13 = ((43 : Nat) : Int)) ∧ ∀ (y1 : Int) (h_1 : aH), (wS h_1 ∧ cRes 0 a1 (vw h) (vw h_1) ∧ vRes 0 a1 (vw h) y1 (vw h_1)) → (∀ (w2 : Int32) (w3 : Int32) (u4_ : Option Value), w2.toInt = y1 → w3.toInt = 0 → Pt n X zM132 8 [some (.ref 33), some (.int x1), some (.int w2), some (.int w3), u4_] [] h_1 (qI P)))) : Pt (n + 1) X zM132 0 [some (.ref 33), some (.int x1), none, none, none] [] h (qI P) := by
  refine pt_1 (fun n d => r_aloadn gx132_0 rfl) ?_
  refine pt_d (pt_1 (fun n d => r_iloadn gx132_1 rfl) ?_)
  obtain ⟨pr1, H⟩ := H
  refine pt_d (pt_virt (as := [.int x1]) (r := []) gx132_2 rfl (show zmt[133]? = some zM133 from rfl) rfl rfl rfl rfl (K133 S z1 pr1) (kqI (fun v1 y1 h_1 h1 P1 => ?_)))
  have S1 := P1.1
  have H := H y1 h_1 P1
  show Pt _ _ _ 5 _ [.int v1] _ _
  refine pt_d (pt_1 (fun n d => r_istoren (L' := [some (.ref 33), some (.int x1), some (.int v1), none, none]) gx132_5 rfl rfl) ?_)
  refine pt_d (pt_iconst gx132_6 (fun v2 h2 => ?_))
  refine pt_d (pt_1 (fun n d => r_istoren (L' := [some (.ref 33), some (.int x1), some (.int v1), some (.int v2), none]) gx132_7 rfl rfl) ?_)
  exact H v1 v2 _ h1 h2
theorem g132_8 {n : Nat} {X : aX} {h : aH} {P : Int → aH → Prop} {x1 x2 x3 : Int32} {a1 a2 a3 : Int} {u4 : Option Value} (S : wS h) (z1 : x1.toInt = a1) (z2 : x2.toInt = a2) (z3 : x3.toInt = a3) (K133 : vt133 n X) (H : ((160 ≤ a3 → P a2 h) ∧ (a3 < 160 → ((tIn (vw h) ∧ (0 : Int) ≤ 42 ∧ (42 : Int) ≤ 127) ∧ ∀ (y4 : Int) (h_4 : aH), (wS h_4 ∧ R125 (vw h) 42 y4 (vw h_4)) → ((y4 = 0 → ((tIn (vw h_4) ∧ (0 : Int) ≤ 47 ∧ (47 : Int) ≤ 127) ∧ ∀ (y7 : Int) (h_7 : aH), (wS h_7 ∧ R125 (vw h_4) 47 y7 (vw h_7)) → ((y7 = 0 → ((tIn (vw h_7) ∧ (0 : Int) ≤ 37 ∧ (37 : Int) ≤ 127) ∧ ∀ (y10 : Int) (h_10 : aH), (wS h_10 ∧ R125 (vw h_7) 37 y10 (vw h_10)) → ((y10 = 0 → P a2 h_10) ∧ (y10 ≠ 0 → ((cpre (vw h_10) a1 ∧ vw h_10 33 13 = ((43 : Nat) : Int)) ∧ ∀ (y12 : Int) (h_12 : aH), (wS h_12 ∧ cRes 0 a1 (vw h_10) (vw h_12) ∧ vRes 0 a1 (vw h_10) y12 (vw h_12)) → ((y12 ≠ 0 → (∀ (w2 : Int32) (w3 : Int32) (u4_ : Option Value), w2.toInt = iRem a2 y12 → w3.toInt = w32 (a3 + 1) → Pt n X zM132 8 [some (.ref 33), some (.int x1), some (.int w2), some (.int w3), u4_] [] h_12 (qI P))) ∧ (y12 = 0 → (∀ (w2 : Int32) (w3 : Int32) (u4_ : Option Value), w2.toInt = 0 → w3.toInt = w32 (a3 + 1) → Pt n X zM132 8 [some (.ref 33), some (.int x1), some (.int w2), some (.int w3), u4_] [] h_12 (qI P))))))))) ∧ (y7 ≠ 0 → ((cpre (vw h_7) a1 ∧ vw h_7 33 13 = ((43 : Nat) : Int)) ∧ ∀ (y18 : Int) (h_18 : aH), (wS h_18 ∧ cRes 0 a1 (vw h_7) (vw h_18) ∧ vRes 0 a1 (vw h_7) y18 (vw h_18)) → ((y18 ≠ 0 → (∀ (w2 : Int32) (w3 : Int32) (u4_ : Option Value), w2.toInt = iDiv a2 y18 → w3.toInt = w32 (a3 + 1) → Pt n X zM132 8 [some (.ref 33), some (.int x1), some (.int w2), some (.int w3), u4_] [] h_18 (qI P))) ∧ (y18 = 0 → (∀ (w2 : Int32) (w3 : Int32) (u4_ : Option Value), w2.toInt = 0 → w3.toInt = w32 (a3 + 1) → Pt n X zM132 8 [some (.ref 33), some (.int x1), some (.int w2), some (.int w3), u4_] [] h_18 (qI P))))))))) ∧ (y4 ≠ 0 → ((cpre (vw h_4) a1 ∧ vw h_4 33 13 = ((43 : Nat) : Int)) ∧ ∀ (y24 : Int) (h_24 : aH), (wS h_24 ∧ cRes 0 a1 (vw h_4) (vw h_24) ∧ vRes 0 a1 (vw h_4) y24 (vw h_24)) → (∀ (w2 : Int32) (w3 : Int32) (u4_ : Option Value), w2.toInt = w32 (a2 * y24) → w3.toInt = w32 (a3 + 1) → Pt n X zM132 8 [some (.ref 33), some (.int x1), some (.int w2), some (.int w3), u4_] [] h_24 (qI P))))))))) : Pt (n + 1) X zM132 8 [some (.ref 33), some (.int x1), some (.int x2), some (.int x3), u4] [] h (qI P) := by
  refine pt_1 (fun n d => r_iloadn gx132_8 rfl) ?_
  refine pt_d (pt_sipush gx132_9 (fun v1 h1 => ?_))
  refine pt_d (pt_icmp_ge gx132_12 z3 h1 (fun e2 => ?_) (fun e2 => ?_))
  · have H := H.1 e2
    refine pt_d (pt_1 (fun n d => r_iloadn gx132_109 rfl) ?_)
    exact pt_d (pt_iret gx132_110 ⟨_, rfl, by rw [z2]; exact H⟩)
  · have H := H.2 e2
    refine pt_d (pt_1 (fun n d => r_aloadn gx132_15 rfl) ?_)
    refine pt_d (pt_bipush gx132_16 (fun v3 h3 => ?_))
    obtain ⟨pr4, H⟩ := H
    refine pt_d (pt_virt (as := [.int v3]) (r := []) gx132_18 rfl (show zmt[125]? = some zM125 from rfl) rfl rfl rfl rfl (c_125 S h3 pr4) (kqI (fun v4 y4 h_4 h4 P4 => ?_)))
    have S4 := P4.1
    have H := H y4 h_4 P4
    show Pt _ _ _ 21 _ [.int v4] _ _
    refine pt_d (pt_if_eq gx132_21 h4 (fun e5 => ?_) (fun e5 => ?_))
    · have H := H.1 e5
      refine pt_d (pt_1 (fun n d => r_aloadn gx132_35 rfl) ?_)
      refine pt_d (pt_bipush gx132_36 (fun v6 h6 => ?_))
      obtain ⟨pr7, H⟩ := H
      refine pt_d (pt_virt (as := [.int v6]) (r := []) gx132_38 rfl (show zmt[125]? = some zM125 from rfl) rfl rfl rfl rfl (c_125 S4 h6 pr7) (kqI (fun v7 y7 h_7 h7 P7 => ?_)))
      have S7 := P7.1
      have H := H y7 h_7 P7
      show Pt _ _ _ 41 _ [.int v7] _ _
      refine pt_d (pt_if_eq gx132_41 h7 (fun e8 => ?_) (fun e8 => ?_))
      · have H := H.1 e8
        refine pt_d (pt_1 (fun n d => r_aloadn gx132_68 rfl) ?_)
        refine pt_d (pt_bipush gx132_69 (fun v9 h9 => ?_))
        obtain ⟨pr10, H⟩ := H
        refine pt_d (pt_virt (as := [.int v9]) (r := []) gx132_71 rfl (show zmt[125]? = some zM125 from rfl) rfl rfl rfl rfl (c_125 S7 h9 pr10) (kqI (fun v10 y10 h_10 h10 P10 => ?_)))
        have S10 := P10.1
        have H := H y10 h_10 P10
        show Pt _ _ _ 74 _ [.int v10] _ _
        refine pt_d (pt_if_eq gx132_74 h10 (fun e11 => ?_) (fun e11 => ?_))
        · have H := H.1 e11
          refine pt_d (pt_1 (fun n d => r_iloadn gx132_101 rfl) ?_)
          exact pt_d (pt_iret gx132_102 ⟨_, rfl, by rw [z2]; exact H⟩)
        · have H := H.2 e11
          refine pt_d (pt_1 (fun n d => r_aloadn gx132_77 rfl) ?_)
          refine pt_d (pt_1 (fun n d => r_iloadn gx132_78 rfl) ?_)
          obtain ⟨pr12, H⟩ := H
          refine pt_d (pt_virt (as := [.int x1]) (r := []) gx132_79 rfl (show zmt[133]? = some zM133 from rfl) rfl rfl rfl rfl (K133 S10 z1 pr12) (kqI (fun v12 y12 h_12 h12 P12 => ?_)))
          have S12 := P12.1
          have H := H y12 h_12 P12
          show Pt _ _ _ 82 _ [.int v12] _ _
          refine pt_d (pt_1 (fun n d => r_istore (L' := [some (.ref 33), some (.int x1), some (.int x2), some (.int x3), some (.int v12)]) gx132_82 rfl rfl) ?_)
          refine pt_d (pt_1 (fun n d => r_iload gx132_84 rfl) ?_)
          refine pt_d (pt_if_ne gx132_86 h12 (fun e13 => ?_) (fun e13 => ?_))
          · have H := H.1 e13
            refine pt_d (pt_1 (fun n d => r_iloadn gx132_93 rfl) ?_)
            refine pt_d (pt_1 (fun n d => r_iload gx132_94 rfl) ?_)
            refine pt_d (pt_irem gx132_96 z2 h12 (fun v14 h14 => ?_))
            refine pt_d (pt_1 (fun n d => r_istoren (L' := [some (.ref 33), some (.int x1), some (.int v14), some (.int x3), some (.int v12)]) gx132_97 rfl rfl) ?_)
            refine pt_d (pt_1 (fun n d => r_goto gx132_98) ?_)
            refine pt_d (pt_iinc (c := 1) gx132_103 rfl z3 (fun v15 h15 => ?_))
            show Pt _ _ _ _ [some (.ref 33), some (.int x1), some (.int v14), some (.int v15), some (.int v12)] [] _ _
            refine pt_d (pt_1 (fun n d => r_goto gx132_106) ?_)
            exact H v14 v15 _ h14 h15
          · have H := H.2 e13
            refine pt_d (pt_iconst gx132_89 (fun v16 h16 => ?_))
            refine pt_d (pt_1 (fun n d => r_goto gx132_90) ?_)
            refine pt_d (pt_1 (fun n d => r_istoren (L' := [some (.ref 33), some (.int x1), some (.int v16), some (.int x3), some (.int v12)]) gx132_97 rfl rfl) ?_)
            refine pt_d (pt_1 (fun n d => r_goto gx132_98) ?_)
            refine pt_d (pt_iinc (c := 1) gx132_103 rfl z3 (fun v17 h17 => ?_))
            show Pt _ _ _ _ [some (.ref 33), some (.int x1), some (.int v16), some (.int v17), some (.int v12)] [] _ _
            refine pt_d (pt_1 (fun n d => r_goto gx132_106) ?_)
            exact H v16 v17 _ h16 h17
      · have H := H.2 e8
        refine pt_d (pt_1 (fun n d => r_aloadn gx132_44 rfl) ?_)
        refine pt_d (pt_1 (fun n d => r_iloadn gx132_45 rfl) ?_)
        obtain ⟨pr18, H⟩ := H
        refine pt_d (pt_virt (as := [.int x1]) (r := []) gx132_46 rfl (show zmt[133]? = some zM133 from rfl) rfl rfl rfl rfl (K133 S7 z1 pr18) (kqI (fun v18 y18 h_18 h18 P18 => ?_)))
        have S18 := P18.1
        have H := H y18 h_18 P18
        show Pt _ _ _ 49 _ [.int v18] _ _
        refine pt_d (pt_1 (fun n d => r_istore (L' := [some (.ref 33), some (.int x1), some (.int x2), some (.int x3), some (.int v18)]) gx132_49 rfl rfl) ?_)
        refine pt_d (pt_1 (fun n d => r_iload gx132_51 rfl) ?_)
        refine pt_d (pt_if_ne gx132_53 h18 (fun e19 => ?_) (fun e19 => ?_))
        · have H := H.1 e19
          refine pt_d (pt_1 (fun n d => r_iloadn gx132_60 rfl) ?_)
          refine pt_d (pt_1 (fun n d => r_iload gx132_61 rfl) ?_)
          refine pt_d (pt_idiv gx132_63 z2 h18 (fun v20 h20 => ?_))
          refine pt_d (pt_1 (fun n d => r_istoren (L' := [some (.ref 33), some (.int x1), some (.int v20), some (.int x3), some (.int v18)]) gx132_64 rfl rfl) ?_)
          refine pt_d (pt_1 (fun n d => r_goto gx132_65) ?_)
          refine pt_d (pt_iinc (c := 1) gx132_103 rfl z3 (fun v21 h21 => ?_))
          show Pt _ _ _ _ [some (.ref 33), some (.int x1), some (.int v20), some (.int v21), some (.int v18)] [] _ _
          refine pt_d (pt_1 (fun n d => r_goto gx132_106) ?_)
          exact H v20 v21 _ h20 h21
        · have H := H.2 e19
          refine pt_d (pt_iconst gx132_56 (fun v22 h22 => ?_))
          refine pt_d (pt_1 (fun n d => r_goto gx132_57) ?_)
          refine pt_d (pt_1 (fun n d => r_istoren (L' := [some (.ref 33), some (.int x1), some (.int v22), some (.int x3), some (.int v18)]) gx132_64 rfl rfl) ?_)
          refine pt_d (pt_1 (fun n d => r_goto gx132_65) ?_)
          refine pt_d (pt_iinc (c := 1) gx132_103 rfl z3 (fun v23 h23 => ?_))
          show Pt _ _ _ _ [some (.ref 33), some (.int x1), some (.int v22), some (.int v23), some (.int v18)] [] _ _
          refine pt_d (pt_1 (fun n d => r_goto gx132_106) ?_)
          exact H v22 v23 _ h22 h23
    · have H := H.2 e5
      refine pt_d (pt_1 (fun n d => r_iloadn gx132_24 rfl) ?_)
      refine pt_d (pt_1 (fun n d => r_aloadn gx132_25 rfl) ?_)
      refine pt_d (pt_1 (fun n d => r_iloadn gx132_26 rfl) ?_)
      obtain ⟨pr24, H⟩ := H
      refine pt_d (pt_virt (as := [.int x1]) (r := [.int x2]) gx132_27 rfl (show zmt[133]? = some zM133 from rfl) rfl rfl rfl rfl (K133 S4 z1 pr24) (kqI (fun v24 y24 h_24 h24 P24 => ?_)))
      have S24 := P24.1
      have H := H y24 h_24 P24
      show Pt _ _ _ 30 _ [.int v24, .int x2] _ _
      refine pt_d (pt_imul gx132_30 z2 h24 (fun v25 h25 => ?_))
      refine pt_d (pt_1 (fun n d => r_istoren (L' := [some (.ref 33), some (.int x1), some (.int v25), some (.int x3), u4]) gx132_31 rfl rfl) ?_)
      refine pt_d (pt_1 (fun n d => r_goto gx132_32) ?_)
      refine pt_d (pt_iinc (c := 1) gx132_103 rfl z3 (fun v26 h26 => ?_))
      show Pt _ _ _ _ [some (.ref 33), some (.int x1), some (.int v25), some (.int v26), u4] [] _ _
      refine pt_d (pt_1 (fun n d => r_goto gx132_106) ?_)
      exact H v25 v26 _ h25 h26
theorem g131_0 {n : Nat} {X : aX} {h : aH} {P : Int → aH → Prop} {x1 : Int32} {a1 : Int} (S : wS h) (z1 : x1.toInt = a1) (K132 : vt132 n X) (H : ((cpre (vw h) a1 ∧ vw h 33 13 = ((43 : Nat) : Int)) ∧ ∀ (y1 : Int) (h_1 : aH), (wS h_1 ∧ cRes 1 a1 (vw h) (vw h_1) ∧ vRes 1 a1 (vw h) y1 (vw h_1)) → (∀ (w2 : Int32) (w3 : Int32), w2.toInt = y1 → w3.toInt = 0 → Pt n X zM131 8 [some (.ref 33), some (.int x1), some (.int w2), some (.int w3)] [] h_1 (qI P)))) : Pt (n + 1) X zM131 0 [some (.ref 33), some (.int x1), none, none] [] h (qI P) := by
  refine pt_1 (fun n d => r_aloadn gx131_0 rfl) ?_
  refine pt_d (pt_1 (fun n d => r_iloadn gx131_1 rfl) ?_)
  obtain ⟨pr1, H⟩ := H
  refine pt_d (pt_virt (as := [.int x1]) (r := []) gx131_2 rfl (show zmt[132]? = some zM132 from rfl) rfl rfl rfl rfl (K132 S z1 pr1) (kqI (fun v1 y1 h_1 h1 P1 => ?_)))
  have S1 := P1.1
  have H := H y1 h_1 P1
  show Pt _ _ _ 5 _ [.int v1] _ _
  refine pt_d (pt_1 (fun n d => r_istoren (L' := [some (.ref 33), some (.int x1), some (.int v1), none]) gx131_5 rfl rfl) ?_)
  refine pt_d (pt_iconst gx131_6 (fun v2 h2 => ?_))
  refine pt_d (pt_1 (fun n d => r_istoren (L' := [some (.ref 33), some (.int x1), some (.int v1), some (.int v2)]) gx131_7 rfl rfl) ?_)
  exact H v1 v2 h1 h2
theorem g131_8 {n : Nat} {X : aX} {h : aH} {P : Int → aH → Prop} {x1 x2 x3 : Int32} {a1 a2 a3 : Int} (S : wS h) (z1 : x1.toInt = a1) (z2 : x2.toInt = a2) (z3 : x3.toInt = a3) (K132 : vt132 n X) (H : ((160 ≤ a3 → P a2 h) ∧ (a3 < 160 → ((tIn (vw h) ∧ (0 : Int) ≤ 43 ∧ (43 : Int) ≤ 127) ∧ ∀ (y4 : Int) (h_4 : aH), (wS h_4 ∧ R125 (vw h) 43 y4 (vw h_4)) → ((y4 = 0 → ((tIn (vw h_4) ∧ (0 : Int) ≤ 45 ∧ (45 : Int) ≤ 127) ∧ ∀ (y7 : Int) (h_7 : aH), (wS h_7 ∧ R125 (vw h_4) 45 y7 (vw h_7)) → ((y7 = 0 → P a2 h_7) ∧ (y7 ≠ 0 → ((cpre (vw h_7) a1 ∧ vw h_7 33 13 = ((43 : Nat) : Int)) ∧ ∀ (y9 : Int) (h_9 : aH), (wS h_9 ∧ cRes 1 a1 (vw h_7) (vw h_9) ∧ vRes 1 a1 (vw h_7) y9 (vw h_9)) → (∀ (w2 : Int32) (w3 : Int32), w2.toInt = w32 (a2 - y9) → w3.toInt = w32 (a3 + 1) → Pt n X zM131 8 [some (.ref 33), some (.int x1), some (.int w2), some (.int w3)] [] h_9 (qI P))))))) ∧ (y4 ≠ 0 → ((cpre (vw h_4) a1 ∧ vw h_4 33 13 = ((43 : Nat) : Int)) ∧ ∀ (y12 : Int) (h_12 : aH), (wS h_12 ∧ cRes 1 a1 (vw h_4) (vw h_12) ∧ vRes 1 a1 (vw h_4) y12 (vw h_12)) → (∀ (w2 : Int32) (w3 : Int32), w2.toInt = w32 (a2 + y12) → w3.toInt = w32 (a3 + 1) → Pt n X zM131 8 [some (.ref 33), some (.int x1), some (.int w2), some (.int w3)] [] h_12 (qI P))))))))) : Pt (n + 1) X zM131 8 [some (.ref 33), some (.int x1), some (.int x2), some (.int x3)] [] h (qI P) := by
  refine pt_1 (fun n d => r_iloadn gx131_8 rfl) ?_
  refine pt_d (pt_sipush gx131_9 (fun v1 h1 => ?_))
  refine pt_d (pt_icmp_ge gx131_12 z3 h1 (fun e2 => ?_) (fun e2 => ?_))
  · have H := H.1 e2
    refine pt_d (pt_1 (fun n d => r_iloadn gx131_63 rfl) ?_)
    exact pt_d (pt_iret gx131_64 ⟨_, rfl, by rw [z2]; exact H⟩)
  · have H := H.2 e2
    refine pt_d (pt_1 (fun n d => r_aloadn gx131_15 rfl) ?_)
    refine pt_d (pt_bipush gx131_16 (fun v3 h3 => ?_))
    obtain ⟨pr4, H⟩ := H
    refine pt_d (pt_virt (as := [.int v3]) (r := []) gx131_18 rfl (show zmt[125]? = some zM125 from rfl) rfl rfl rfl rfl (c_125 S h3 pr4) (kqI (fun v4 y4 h_4 h4 P4 => ?_)))
    have S4 := P4.1
    have H := H y4 h_4 P4
    show Pt _ _ _ 21 _ [.int v4] _ _
    refine pt_d (pt_if_eq gx131_21 h4 (fun e5 => ?_) (fun e5 => ?_))
    · have H := H.1 e5
      refine pt_d (pt_1 (fun n d => r_aloadn gx131_35 rfl) ?_)
      refine pt_d (pt_bipush gx131_36 (fun v6 h6 => ?_))
      obtain ⟨pr7, H⟩ := H
      refine pt_d (pt_virt (as := [.int v6]) (r := []) gx131_38 rfl (show zmt[125]? = some zM125 from rfl) rfl rfl rfl rfl (c_125 S4 h6 pr7) (kqI (fun v7 y7 h_7 h7 P7 => ?_)))
      have S7 := P7.1
      have H := H y7 h_7 P7
      show Pt _ _ _ 41 _ [.int v7] _ _
      refine pt_d (pt_if_eq gx131_41 h7 (fun e8 => ?_) (fun e8 => ?_))
      · have H := H.1 e8
        refine pt_d (pt_1 (fun n d => r_iloadn gx131_55 rfl) ?_)
        exact pt_d (pt_iret gx131_56 ⟨_, rfl, by rw [z2]; exact H⟩)
      · have H := H.2 e8
        refine pt_d (pt_1 (fun n d => r_iloadn gx131_44 rfl) ?_)
        refine pt_d (pt_1 (fun n d => r_aloadn gx131_45 rfl) ?_)
        refine pt_d (pt_1 (fun n d => r_iloadn gx131_46 rfl) ?_)
        obtain ⟨pr9, H⟩ := H
        refine pt_d (pt_virt (as := [.int x1]) (r := [.int x2]) gx131_47 rfl (show zmt[132]? = some zM132 from rfl) rfl rfl rfl rfl (K132 S7 z1 pr9) (kqI (fun v9 y9 h_9 h9 P9 => ?_)))
        have S9 := P9.1
        have H := H y9 h_9 P9
        show Pt _ _ _ 50 _ [.int v9, .int x2] _ _
        refine pt_d (pt_isub gx131_50 z2 h9 (fun v10 h10 => ?_))
        refine pt_d (pt_1 (fun n d => r_istoren (L' := [some (.ref 33), some (.int x1), some (.int v10), some (.int x3)]) gx131_51 rfl rfl) ?_)
        refine pt_d (pt_1 (fun n d => r_goto gx131_52) ?_)
        refine pt_d (pt_iinc (c := 1) gx131_57 rfl z3 (fun v11 h11 => ?_))
        show Pt _ _ _ _ [some (.ref 33), some (.int x1), some (.int v10), some (.int v11)] [] _ _
        refine pt_d (pt_1 (fun n d => r_goto gx131_60) ?_)
        exact H v10 v11 h10 h11
    · have H := H.2 e5
      refine pt_d (pt_1 (fun n d => r_iloadn gx131_24 rfl) ?_)
      refine pt_d (pt_1 (fun n d => r_aloadn gx131_25 rfl) ?_)
      refine pt_d (pt_1 (fun n d => r_iloadn gx131_26 rfl) ?_)
      obtain ⟨pr12, H⟩ := H
      refine pt_d (pt_virt (as := [.int x1]) (r := [.int x2]) gx131_27 rfl (show zmt[132]? = some zM132 from rfl) rfl rfl rfl rfl (K132 S4 z1 pr12) (kqI (fun v12 y12 h_12 h12 P12 => ?_)))
      have S12 := P12.1
      have H := H y12 h_12 P12
      show Pt _ _ _ 30 _ [.int v12, .int x2] _ _
      refine pt_d (pt_iadd gx131_30 z2 h12 (fun v13 h13 => ?_))
      refine pt_d (pt_1 (fun n d => r_istoren (L' := [some (.ref 33), some (.int x1), some (.int v13), some (.int x3)]) gx131_31 rfl rfl) ?_)
      refine pt_d (pt_1 (fun n d => r_goto gx131_32) ?_)
      refine pt_d (pt_iinc (c := 1) gx131_57 rfl z3 (fun v14 h14 => ?_))
      show Pt _ _ _ _ [some (.ref 33), some (.int x1), some (.int v13), some (.int v14)] [] _ _
      refine pt_d (pt_1 (fun n d => r_goto gx131_60) ?_)
      exact H v13 v14 h13 h14
theorem g129_0 {n : Nat} {X : aX} {h : aH} {P : Int → aH → Prop} {x1 : Int32} {a1 : Int} (S : wS h) (z1 : x1.toInt = a1) (K130 : vt130 n X) (H : ((cpre (vw h) a1 ∧ vw h 33 13 = ((43 : Nat) : Int)) ∧ ∀ (y1 : Int) (h_1 : aH), (wS h_1 ∧ cRes 5 a1 (vw h) (vw h_1) ∧ vRes 5 a1 (vw h) y1 (vw h_1)) → (∀ (w2 : Int32) (w3 : Int32) (u4_ : Option Value), w2.toInt = y1 → w3.toInt = 0 → Pt n X zM129 8 [some (.ref 33), some (.int x1), some (.int w2), some (.int w3), u4_] [] h_1 (qI P)))) : Pt (n + 1) X zM129 0 [some (.ref 33), some (.int x1), none, none, none] [] h (qI P) := by
  refine pt_1 (fun n d => r_aloadn gx129_0 rfl) ?_
  refine pt_d (pt_1 (fun n d => r_iloadn gx129_1 rfl) ?_)
  obtain ⟨pr1, H⟩ := H
  refine pt_d (pt_virt (as := [.int x1]) (r := []) gx129_2 rfl (show zmt[130]? = some zM130 from rfl) rfl rfl rfl rfl (K130 S z1 pr1) (kqI (fun v1 y1 h_1 h1 P1 => ?_)))
  have S1 := P1.1
  have H := H y1 h_1 P1
  show Pt _ _ _ 5 _ [.int v1] _ _
  refine pt_d (pt_1 (fun n d => r_istoren (L' := [some (.ref 33), some (.int x1), some (.int v1), none, none]) gx129_5 rfl rfl) ?_)
  refine pt_d (pt_iconst gx129_6 (fun v2 h2 => ?_))
  refine pt_d (pt_1 (fun n d => r_istoren (L' := [some (.ref 33), some (.int x1), some (.int v1), some (.int v2), none]) gx129_7 rfl rfl) ?_)
  exact H v1 v2 _ h1 h2
theorem g129_8 {n : Nat} {X : aX} {h : aH} {P : Int → aH → Prop} {x1 x2 x3 : Int32} {a1 a2 a3 : Int} {u4 : Option Value} (S : wS h) (z1 : x1.toInt = a1) (z2 : x2.toInt = a2) (z3 : x3.toInt = a3) (K130 : vt130 n X) (H : ((160 ≤ a3 → P a2 h) ∧ (a3 < 160 → ((tIn (vw h) ∧ (0 : Int) ≤ 38 ∧ (38 : Int) ≤ 127) ∧ ∀ (y4 : Int) (h_4 : aH), (wS h_4 ∧ R125 (vw h) 38 y4 (vw h_4)) → ((y4 = 0 → P a2 h_4) ∧ (y4 ≠ 0 → ((cpre (vw h_4) a1 ∧ vw h_4 33 13 = ((43 : Nat) : Int)) ∧ ∀ (y6 : Int) (h_6 : aH), (wS h_6 ∧ cRes 5 a1 (vw h_4) (vw h_6) ∧ vRes 5 a1 (vw h_4) y6 (vw h_6)) → ((a2 = 0 → (∀ (w2 : Int32) (w3 : Int32) (u4_ : Option Value), w2.toInt = (if (0 : Int) = 0 then 0 else 1) → w3.toInt = w32 (a3 + 1) → Pt n X zM129 8 [some (.ref 33), some (.int x1), some (.int w2), some (.int w3), u4_] [] h_6 (qI P))) ∧ (a2 ≠ 0 → ((y6 = 0 → (∀ (w2 : Int32) (w3 : Int32) (u4_ : Option Value), w2.toInt = (if (0 : Int) = 0 then 0 else 1) → w3.toInt = w32 (a3 + 1) → Pt n X zM129 8 [some (.ref 33), some (.int x1), some (.int w2), some (.int w3), u4_] [] h_6 (qI P))) ∧ (y6 ≠ 0 → (∀ (w2 : Int32) (w3 : Int32) (u4_ : Option Value), w2.toInt = (if (1 : Int) = 0 then 0 else 1) → w3.toInt = w32 (a3 + 1) → Pt n X zM129 8 [some (.ref 33), some (.int x1), some (.int w2), some (.int w3), u4_] [] h_6 (qI P))))))))))))) : Pt (n + 1) X zM129 8 [some (.ref 33), some (.int x1), some (.int x2), some (.int x3), u4] [] h (qI P) := by
  refine pt_1 (fun n d => r_iloadn gx129_8 rfl) ?_
  refine pt_d (pt_sipush gx129_9 (fun v1 h1 => ?_))
  refine pt_d (pt_icmp_ge gx129_12 z3 h1 (fun e2 => ?_) (fun e2 => ?_))
  · have H := H.1 e2
    refine pt_d (pt_1 (fun n d => r_iloadn gx129_55 rfl) ?_)
    exact pt_d (pt_iret gx129_56 ⟨_, rfl, by rw [z2]; exact H⟩)
  · have H := H.2 e2
    refine pt_d (pt_1 (fun n d => r_aloadn gx129_15 rfl) ?_)
    refine pt_d (pt_bipush gx129_16 (fun v3 h3 => ?_))
    obtain ⟨pr4, H⟩ := H
    refine pt_d (pt_virt (as := [.int v3]) (r := []) gx129_18 rfl (show zmt[125]? = some zM125 from rfl) rfl rfl rfl rfl (c_125 S h3 pr4) (kqI (fun v4 y4 h_4 h4 P4 => ?_)))
    have S4 := P4.1
    have H := H y4 h_4 P4
    show Pt _ _ _ 21 _ [.int v4] _ _
    refine pt_d (pt_if_eq gx129_21 h4 (fun e5 => ?_) (fun e5 => ?_))
    · have H := H.1 e5
      refine pt_d (pt_1 (fun n d => r_iloadn gx129_55 rfl) ?_)
      exact pt_d (pt_iret gx129_56 ⟨_, rfl, by rw [z2]; exact H⟩)
    · have H := H.2 e5
      refine pt_d (pt_1 (fun n d => r_aloadn gx129_24 rfl) ?_)
      refine pt_d (pt_1 (fun n d => r_iloadn gx129_25 rfl) ?_)
      obtain ⟨pr6, H⟩ := H
      refine pt_d (pt_virt (as := [.int x1]) (r := []) gx129_26 rfl (show zmt[130]? = some zM130 from rfl) rfl rfl rfl rfl (K130 S4 z1 pr6) (kqI (fun v6 y6 h_6 h6 P6 => ?_)))
      have S6 := P6.1
      have H := H y6 h_6 P6
      show Pt _ _ _ 29 _ [.int v6] _ _
      refine pt_d (pt_1 (fun n d => r_istore (L' := [some (.ref 33), some (.int x1), some (.int x2), some (.int x3), some (.int v6)]) gx129_29 rfl rfl) ?_)
      refine pt_d (pt_1 (fun n d => r_iloadn gx129_31 rfl) ?_)
      refine pt_d (pt_if_eq gx129_32 z2 (fun e7 => ?_) (fun e7 => ?_))
      · have H := H.1 e7
        refine pt_d (pt_iconst gx129_44 (fun v8 h8 => ?_))
        refine pt_d (pt_stat (as := [.int v8]) (r := []) gx129_45 rfl (show zmt[127]? = some zM127 from rfl) rfl rfl rfl rfl (c_127 S6 h8) (kqP (fun v9 h9 => ?_)))
        show Pt _ _ _ 48 _ [.int v9] _ _
        refine pt_d (pt_1 (fun n d => r_istoren (L' := [some (.ref 33), some (.int x1), some (.int v9), some (.int x3), some (.int v6)]) gx129_48 rfl rfl) ?_)
        refine pt_d (pt_iinc (c := 1) gx129_49 rfl z3 (fun v10 h10 => ?_))
        show Pt _ _ _ _ [some (.ref 33), some (.int x1), some (.int v9), some (.int v10), some (.int v6)] [] _ _
        refine pt_d (pt_1 (fun n d => r_goto gx129_52) ?_)
        exact H v9 v10 _ h9 h10
      · have H := H.2 e7
        refine pt_d (pt_1 (fun n d => r_iload gx129_35 rfl) ?_)
        refine pt_d (pt_if_eq gx129_37 h6 (fun e11 => ?_) (fun e11 => ?_))
        · have H := H.1 e11
          refine pt_d (pt_iconst gx129_44 (fun v12 h12 => ?_))
          refine pt_d (pt_stat (as := [.int v12]) (r := []) gx129_45 rfl (show zmt[127]? = some zM127 from rfl) rfl rfl rfl rfl (c_127 S6 h12) (kqP (fun v13 h13 => ?_)))
          show Pt _ _ _ 48 _ [.int v13] _ _
          refine pt_d (pt_1 (fun n d => r_istoren (L' := [some (.ref 33), some (.int x1), some (.int v13), some (.int x3), some (.int v6)]) gx129_48 rfl rfl) ?_)
          refine pt_d (pt_iinc (c := 1) gx129_49 rfl z3 (fun v14 h14 => ?_))
          show Pt _ _ _ _ [some (.ref 33), some (.int x1), some (.int v13), some (.int v14), some (.int v6)] [] _ _
          refine pt_d (pt_1 (fun n d => r_goto gx129_52) ?_)
          exact H v13 v14 _ h13 h14
        · have H := H.2 e11
          refine pt_d (pt_iconst gx129_40 (fun v15 h15 => ?_))
          refine pt_d (pt_1 (fun n d => r_goto gx129_41) ?_)
          refine pt_d (pt_stat (as := [.int v15]) (r := []) gx129_45 rfl (show zmt[127]? = some zM127 from rfl) rfl rfl rfl rfl (c_127 S6 h15) (kqP (fun v16 h16 => ?_)))
          show Pt _ _ _ 48 _ [.int v16] _ _
          refine pt_d (pt_1 (fun n d => r_istoren (L' := [some (.ref 33), some (.int x1), some (.int v16), some (.int x3), some (.int v6)]) gx129_48 rfl rfl) ?_)
          refine pt_d (pt_iinc (c := 1) gx129_49 rfl z3 (fun v17 h17 => ?_))
          show Pt _ _ _ _ [some (.ref 33), some (.int x1), some (.int v16), some (.int v17), some (.int v6)] [] _ _
          refine pt_d (pt_1 (fun n d => r_goto gx129_52) ?_)
          exact H v16 v17 _ h16 h17
theorem g128_0 {n : Nat} {X : aX} {h : aH} {P : Int → aH → Prop} {x1 : Int32} {a1 : Int} (S : wS h) (z1 : x1.toInt = a1) (K129 : vt129 n X) (H : ((cpre (vw h) a1 ∧ vw h 33 13 = ((43 : Nat) : Int)) ∧ ∀ (y1 : Int) (h_1 : aH), (wS h_1 ∧ cRes 6 a1 (vw h) (vw h_1) ∧ vRes 6 a1 (vw h) y1 (vw h_1)) → (∀ (w2 : Int32) (w3 : Int32) (u4_ : Option Value), w2.toInt = y1 → w3.toInt = 0 → Pt n X zM128 8 [some (.ref 33), some (.int x1), some (.int w2), some (.int w3), u4_] [] h_1 (qI P)))) : Pt (n + 1) X zM128 0 [some (.ref 33), some (.int x1), none, none, none] [] h (qI P) := by
  refine pt_1 (fun n d => r_aloadn gx128_0 rfl) ?_
  refine pt_d (pt_1 (fun n d => r_iloadn gx128_1 rfl) ?_)
  obtain ⟨pr1, H⟩ := H
  refine pt_d (pt_virt (as := [.int x1]) (r := []) gx128_2 rfl (show zmt[129]? = some zM129 from rfl) rfl rfl rfl rfl (K129 S z1 pr1) (kqI (fun v1 y1 h_1 h1 P1 => ?_)))
  have S1 := P1.1
  have H := H y1 h_1 P1
  show Pt _ _ _ 5 _ [.int v1] _ _
  refine pt_d (pt_1 (fun n d => r_istoren (L' := [some (.ref 33), some (.int x1), some (.int v1), none, none]) gx128_5 rfl rfl) ?_)
  refine pt_d (pt_iconst gx128_6 (fun v2 h2 => ?_))
  refine pt_d (pt_1 (fun n d => r_istoren (L' := [some (.ref 33), some (.int x1), some (.int v1), some (.int v2), none]) gx128_7 rfl rfl) ?_)
  exact H v1 v2 _ h1 h2
theorem g128_8 {n : Nat} {X : aX} {h : aH} {P : Int → aH → Prop} {x1 x2 x3 : Int32} {a1 a2 a3 : Int} {u4 : Option Value} (S : wS h) (z1 : x1.toInt = a1) (z2 : x2.toInt = a2) (z3 : x3.toInt = a3) (K129 : vt129 n X) (H : ((160 ≤ a3 → P a2 h) ∧ (a3 < 160 → ((tIn (vw h) ∧ (0 : Int) ≤ 124 ∧ (124 : Int) ≤ 127) ∧ ∀ (y4 : Int) (h_4 : aH), (wS h_4 ∧ R125 (vw h) 124 y4 (vw h_4)) → ((y4 = 0 → P a2 h_4) ∧ (y4 ≠ 0 → ((cpre (vw h_4) a1 ∧ vw h_4 33 13 = ((43 : Nat) : Int)) ∧ ∀ (y6 : Int) (h_6 : aH), (wS h_6 ∧ cRes 6 a1 (vw h_4) (vw h_6) ∧ vRes 6 a1 (vw h_4) y6 (vw h_6)) → ((a2 ≠ 0 → (∀ (w2 : Int32) (w3 : Int32) (u4_ : Option Value), w2.toInt = (if (1 : Int) = 0 then 0 else 1) → w3.toInt = w32 (a3 + 1) → Pt n X zM128 8 [some (.ref 33), some (.int x1), some (.int w2), some (.int w3), u4_] [] h_6 (qI P))) ∧ (a2 = 0 → ((y6 = 0 → (∀ (w2 : Int32) (w3 : Int32) (u4_ : Option Value), w2.toInt = (if (0 : Int) = 0 then 0 else 1) → w3.toInt = w32 (a3 + 1) → Pt n X zM128 8 [some (.ref 33), some (.int x1), some (.int w2), some (.int w3), u4_] [] h_6 (qI P))) ∧ (y6 ≠ 0 → (∀ (w2 : Int32) (w3 : Int32) (u4_ : Option Value), w2.toInt = (if (1 : Int) = 0 then 0 else 1) → w3.toInt = w32 (a3 + 1) → Pt n X zM128 8 [some (.ref 33), some (.int x1), some (.int w2), some (.int w3), u4_] [] h_6 (qI P))))))))))))) : Pt (n + 1) X zM128 8 [some (.ref 33), some (.int x1), some (.int x2), some (.int x3), u4] [] h (qI P) := by
  refine pt_1 (fun n d => r_iloadn gx128_8 rfl) ?_
  refine pt_d (pt_sipush gx128_9 (fun v1 h1 => ?_))
  refine pt_d (pt_icmp_ge gx128_12 z3 h1 (fun e2 => ?_) (fun e2 => ?_))
  · have H := H.1 e2
    refine pt_d (pt_1 (fun n d => r_iloadn gx128_55 rfl) ?_)
    exact pt_d (pt_iret gx128_56 ⟨_, rfl, by rw [z2]; exact H⟩)
  · have H := H.2 e2
    refine pt_d (pt_1 (fun n d => r_aloadn gx128_15 rfl) ?_)
    refine pt_d (pt_bipush gx128_16 (fun v3 h3 => ?_))
    obtain ⟨pr4, H⟩ := H
    refine pt_d (pt_virt (as := [.int v3]) (r := []) gx128_18 rfl (show zmt[125]? = some zM125 from rfl) rfl rfl rfl rfl (c_125 S h3 pr4) (kqI (fun v4 y4 h_4 h4 P4 => ?_)))
    have S4 := P4.1
    have H := H y4 h_4 P4
    show Pt _ _ _ 21 _ [.int v4] _ _
    refine pt_d (pt_if_eq gx128_21 h4 (fun e5 => ?_) (fun e5 => ?_))
    · have H := H.1 e5
      refine pt_d (pt_1 (fun n d => r_iloadn gx128_55 rfl) ?_)
      exact pt_d (pt_iret gx128_56 ⟨_, rfl, by rw [z2]; exact H⟩)
    · have H := H.2 e5
      refine pt_d (pt_1 (fun n d => r_aloadn gx128_24 rfl) ?_)
      refine pt_d (pt_1 (fun n d => r_iloadn gx128_25 rfl) ?_)
      obtain ⟨pr6, H⟩ := H
      refine pt_d (pt_virt (as := [.int x1]) (r := []) gx128_26 rfl (show zmt[129]? = some zM129 from rfl) rfl rfl rfl rfl (K129 S4 z1 pr6) (kqI (fun v6 y6 h_6 h6 P6 => ?_)))
      have S6 := P6.1
      have H := H y6 h_6 P6
      show Pt _ _ _ 29 _ [.int v6] _ _
      refine pt_d (pt_1 (fun n d => r_istore (L' := [some (.ref 33), some (.int x1), some (.int x2), some (.int x3), some (.int v6)]) gx128_29 rfl rfl) ?_)
      refine pt_d (pt_1 (fun n d => r_iloadn gx128_31 rfl) ?_)
      refine pt_d (pt_if_ne gx128_32 z2 (fun e7 => ?_) (fun e7 => ?_))
      · have H := H.1 e7
        refine pt_d (pt_iconst gx128_40 (fun v8 h8 => ?_))
        refine pt_d (pt_1 (fun n d => r_goto gx128_41) ?_)
        refine pt_d (pt_stat (as := [.int v8]) (r := []) gx128_45 rfl (show zmt[127]? = some zM127 from rfl) rfl rfl rfl rfl (c_127 S6 h8) (kqP (fun v9 h9 => ?_)))
        show Pt _ _ _ 48 _ [.int v9] _ _
        refine pt_d (pt_1 (fun n d => r_istoren (L' := [some (.ref 33), some (.int x1), some (.int v9), some (.int x3), some (.int v6)]) gx128_48 rfl rfl) ?_)
        refine pt_d (pt_iinc (c := 1) gx128_49 rfl z3 (fun v10 h10 => ?_))
        show Pt _ _ _ _ [some (.ref 33), some (.int x1), some (.int v9), some (.int v10), some (.int v6)] [] _ _
        refine pt_d (pt_1 (fun n d => r_goto gx128_52) ?_)
        exact H v9 v10 _ h9 h10
      · have H := H.2 e7
        refine pt_d (pt_1 (fun n d => r_iload gx128_35 rfl) ?_)
        refine pt_d (pt_if_eq gx128_37 h6 (fun e11 => ?_) (fun e11 => ?_))
        · have H := H.1 e11
          refine pt_d (pt_iconst gx128_44 (fun v12 h12 => ?_))
          refine pt_d (pt_stat (as := [.int v12]) (r := []) gx128_45 rfl (show zmt[127]? = some zM127 from rfl) rfl rfl rfl rfl (c_127 S6 h12) (kqP (fun v13 h13 => ?_)))
          show Pt _ _ _ 48 _ [.int v13] _ _
          refine pt_d (pt_1 (fun n d => r_istoren (L' := [some (.ref 33), some (.int x1), some (.int v13), some (.int x3), some (.int v6)]) gx128_48 rfl rfl) ?_)
          refine pt_d (pt_iinc (c := 1) gx128_49 rfl z3 (fun v14 h14 => ?_))
          show Pt _ _ _ _ [some (.ref 33), some (.int x1), some (.int v13), some (.int v14), some (.int v6)] [] _ _
          refine pt_d (pt_1 (fun n d => r_goto gx128_52) ?_)
          exact H v13 v14 _ h13 h14
        · have H := H.2 e11
          refine pt_d (pt_iconst gx128_40 (fun v15 h15 => ?_))
          refine pt_d (pt_1 (fun n d => r_goto gx128_41) ?_)
          refine pt_d (pt_stat (as := [.int v15]) (r := []) gx128_45 rfl (show zmt[127]? = some zM127 from rfl) rfl rfl rfl rfl (c_127 S6 h15) (kqP (fun v16 h16 => ?_)))
          show Pt _ _ _ 48 _ [.int v16] _ _
          refine pt_d (pt_1 (fun n d => r_istoren (L' := [some (.ref 33), some (.int x1), some (.int v16), some (.int x3), some (.int v6)]) gx128_48 rfl rfl) ?_)
          refine pt_d (pt_iinc (c := 1) gx128_49 rfl z3 (fun v17 h17 => ?_))
          show Pt _ _ _ _ [some (.ref 33), some (.int x1), some (.int v16), some (.int v17), some (.int v6)] [] _ _
          refine pt_d (pt_1 (fun n d => r_goto gx128_52) ?_)
          exact H v16 v17 _ h16 h17
theorem g130_0 {n : Nat} {X : aX} {h : aH} {P : Int → aH → Prop} {x1 : Int32} {a1 : Int} (S : wS h) (z1 : x1.toInt = a1) (K131 : vt131 n X) (H : ((cpre (vw h) a1 ∧ vw h 33 13 = ((43 : Nat) : Int)) ∧ ∀ (y1 : Int) (h_1 : aH), (wS h_1 ∧ cRes 3 a1 (vw h) (vw h_1) ∧ vRes 3 a1 (vw h) y1 (vw h_1)) → ((tIn (vw h_1) ∧ (0 : Int) ≤ 60 ∧ (60 : Int) ≤ 127) ∧ ∀ (y3 : Int) (h_3 : aH), (wS h_3 ∧ R125 (vw h_1) 60 y3 (vw h_3)) → ((y3 = 0 → ((tIn (vw h_3) ∧ (0 : Int) ≤ 61 ∧ (61 : Int) ≤ 127) ∧ ∀ (y6 : Int) (h_6 : aH), (wS h_6 ∧ R125 (vw h_3) 61 y6 (vw h_6)) → ((y6 = 0 → ((tIn (vw h_6) ∧ (0 : Int) ≤ 62 ∧ (62 : Int) ≤ 127) ∧ ∀ (y9 : Int) (h_9 : aH), (wS h_9 ∧ R125 (vw h_6) 62 y9 (vw h_9)) → ((y9 = 0 → P y1 h_9) ∧ (y9 ≠ 0 → ((cpre (vw h_9) a1 ∧ vw h_9 33 13 = ((43 : Nat) : Int)) ∧ ∀ (y11 : Int) (h_11 : aH), (wS h_11 ∧ cRes 3 a1 (vw h_9) (vw h_11) ∧ vRes 3 a1 (vw h_9) y11 (vw h_11)) → ((y1 ≤ y11 → P (if (0 : Int) = 0 then 0 else 1) h_11) ∧ (y11 < y1 → P (if (1 : Int) = 0 then 0 else 1) h_11))))))) ∧ (y6 ≠ 0 → ((cpre (vw h_6) a1 ∧ vw h_6 33 13 = ((43 : Nat) : Int)) ∧ ∀ (y17 : Int) (h_17 : aH), (wS h_17 ∧ cRes 3 a1 (vw h_6) (vw h_17) ∧ vRes 3 a1 (vw h_6) y17 (vw h_17)) → ((y1 ≠ y17 → P (if (0 : Int) = 0 then 0 else 1) h_17) ∧ (y1 = y17 → P (if (1 : Int) = 0 then 0 else 1) h_17))))))) ∧ (y3 ≠ 0 → ((cpre (vw h_3) a1 ∧ vw h_3 33 13 = ((43 : Nat) : Int)) ∧ ∀ (y23 : Int) (h_23 : aH), (wS h_23 ∧ cRes 3 a1 (vw h_3) (vw h_23) ∧ vRes 3 a1 (vw h_3) y23 (vw h_23)) → ((y23 ≤ y1 → P (if (0 : Int) = 0 then 0 else 1) h_23) ∧ (y1 < y23 → P (if (1 : Int) = 0 then 0 else 1) h_23)))))))) : Pt (n + 1) X zM130 0 [some (.ref 33), some (.int x1), none] [] h (qI P) := by
  refine pt_1 (fun n d => r_aloadn gx130_0 rfl) ?_
  refine pt_d (pt_1 (fun n d => r_iloadn gx130_1 rfl) ?_)
  obtain ⟨pr1, H⟩ := H
  refine pt_d (pt_virt (as := [.int x1]) (r := []) gx130_2 rfl (show zmt[131]? = some zM131 from rfl) rfl rfl rfl rfl (K131 S z1 pr1) (kqI (fun v1 y1 h_1 h1 P1 => ?_)))
  have S1 := P1.1
  have H := H y1 h_1 P1
  show Pt _ _ _ 5 _ [.int v1] _ _
  refine pt_d (pt_1 (fun n d => r_istoren (L' := [some (.ref 33), some (.int x1), some (.int v1)]) gx130_5 rfl rfl) ?_)
  refine pt_d (pt_1 (fun n d => r_aloadn gx130_6 rfl) ?_)
  refine pt_d (pt_bipush gx130_7 (fun v2 h2 => ?_))
  obtain ⟨pr3, H⟩ := H
  refine pt_d (pt_virt (as := [.int v2]) (r := []) gx130_9 rfl (show zmt[125]? = some zM125 from rfl) rfl rfl rfl rfl (c_125 S1 h2 pr3) (kqI (fun v3 y3 h_3 h3 P3 => ?_)))
  have S3 := P3.1
  have H := H y3 h_3 P3
  show Pt _ _ _ 12 _ [.int v3] _ _
  refine pt_d (pt_if_eq gx130_12 h3 (fun e4 => ?_) (fun e4 => ?_))
  · have H := H.1 e4
    refine pt_d (pt_1 (fun n d => r_aloadn gx130_33 rfl) ?_)
    refine pt_d (pt_bipush gx130_34 (fun v5 h5 => ?_))
    obtain ⟨pr6, H⟩ := H
    refine pt_d (pt_virt (as := [.int v5]) (r := []) gx130_36 rfl (show zmt[125]? = some zM125 from rfl) rfl rfl rfl rfl (c_125 S3 h5 pr6) (kqI (fun v6 y6 h_6 h6 P6 => ?_)))
    have S6 := P6.1
    have H := H y6 h_6 P6
    show Pt _ _ _ 39 _ [.int v6] _ _
    refine pt_d (pt_if_eq gx130_39 h6 (fun e7 => ?_) (fun e7 => ?_))
    · have H := H.1 e7
      refine pt_d (pt_1 (fun n d => r_aloadn gx130_60 rfl) ?_)
      refine pt_d (pt_bipush gx130_61 (fun v8 h8 => ?_))
      obtain ⟨pr9, H⟩ := H
      refine pt_d (pt_virt (as := [.int v8]) (r := []) gx130_63 rfl (show zmt[125]? = some zM125 from rfl) rfl rfl rfl rfl (c_125 S6 h8 pr9) (kqI (fun v9 y9 h_9 h9 P9 => ?_)))
      have S9 := P9.1
      have H := H y9 h_9 P9
      show Pt _ _ _ 66 _ [.int v9] _ _
      refine pt_d (pt_if_eq gx130_66 h9 (fun e10 => ?_) (fun e10 => ?_))
      · have H := H.1 e10
        refine pt_d (pt_1 (fun n d => r_iloadn gx130_87 rfl) ?_)
        exact pt_d (pt_iret gx130_88 ⟨_, rfl, by rw [h1]; exact H⟩)
      · have H := H.2 e10
        refine pt_d (pt_1 (fun n d => r_iloadn gx130_69 rfl) ?_)
        refine pt_d (pt_1 (fun n d => r_aloadn gx130_70 rfl) ?_)
        refine pt_d (pt_1 (fun n d => r_iloadn gx130_71 rfl) ?_)
        obtain ⟨pr11, H⟩ := H
        refine pt_d (pt_virt (as := [.int x1]) (r := [.int v1]) gx130_72 rfl (show zmt[131]? = some zM131 from rfl) rfl rfl rfl rfl (K131 S9 z1 pr11) (kqI (fun v11 y11 h_11 h11 P11 => ?_)))
        have S11 := P11.1
        have H := H y11 h_11 P11
        show Pt _ _ _ 75 _ [.int v11, .int v1] _ _
        refine pt_d (pt_icmp_le gx130_75 h1 h11 (fun e12 => ?_) (fun e12 => ?_))
        · have H := H.1 e12
          refine pt_d (pt_iconst gx130_82 (fun v13 h13 => ?_))
          refine pt_d (pt_stat (as := [.int v13]) (r := []) gx130_83 rfl (show zmt[127]? = some zM127 from rfl) rfl rfl rfl rfl (c_127 S11 h13) (kqP (fun v14 h14 => ?_)))
          show Pt _ _ _ 86 _ [.int v14] _ _
          exact pt_d (pt_iret gx130_86 ⟨_, rfl, by rw [h14]; exact H⟩)
        · have H := H.2 e12
          refine pt_d (pt_iconst gx130_78 (fun v15 h15 => ?_))
          refine pt_d (pt_1 (fun n d => r_goto gx130_79) ?_)
          refine pt_d (pt_stat (as := [.int v15]) (r := []) gx130_83 rfl (show zmt[127]? = some zM127 from rfl) rfl rfl rfl rfl (c_127 S11 h15) (kqP (fun v16 h16 => ?_)))
          show Pt _ _ _ 86 _ [.int v16] _ _
          exact pt_d (pt_iret gx130_86 ⟨_, rfl, by rw [h16]; exact H⟩)
    · have H := H.2 e7
      refine pt_d (pt_1 (fun n d => r_iloadn gx130_42 rfl) ?_)
      refine pt_d (pt_1 (fun n d => r_aloadn gx130_43 rfl) ?_)
      refine pt_d (pt_1 (fun n d => r_iloadn gx130_44 rfl) ?_)
      obtain ⟨pr17, H⟩ := H
      refine pt_d (pt_virt (as := [.int x1]) (r := [.int v1]) gx130_45 rfl (show zmt[131]? = some zM131 from rfl) rfl rfl rfl rfl (K131 S6 z1 pr17) (kqI (fun v17 y17 h_17 h17 P17 => ?_)))
      have S17 := P17.1
      have H := H y17 h_17 P17
      show Pt _ _ _ 48 _ [.int v17, .int v1] _ _
      refine pt_d (pt_icmp_ne gx130_48 h1 h17 (fun e18 => ?_) (fun e18 => ?_))
      · have H := H.1 e18
        refine pt_d (pt_iconst gx130_55 (fun v19 h19 => ?_))
        refine pt_d (pt_stat (as := [.int v19]) (r := []) gx130_56 rfl (show zmt[127]? = some zM127 from rfl) rfl rfl rfl rfl (c_127 S17 h19) (kqP (fun v20 h20 => ?_)))
        show Pt _ _ _ 59 _ [.int v20] _ _
        exact pt_d (pt_iret gx130_59 ⟨_, rfl, by rw [h20]; exact H⟩)
      · have H := H.2 e18
        refine pt_d (pt_iconst gx130_51 (fun v21 h21 => ?_))
        refine pt_d (pt_1 (fun n d => r_goto gx130_52) ?_)
        refine pt_d (pt_stat (as := [.int v21]) (r := []) gx130_56 rfl (show zmt[127]? = some zM127 from rfl) rfl rfl rfl rfl (c_127 S17 h21) (kqP (fun v22 h22 => ?_)))
        show Pt _ _ _ 59 _ [.int v22] _ _
        exact pt_d (pt_iret gx130_59 ⟨_, rfl, by rw [h22]; exact H⟩)
  · have H := H.2 e4
    refine pt_d (pt_1 (fun n d => r_iloadn gx130_15 rfl) ?_)
    refine pt_d (pt_1 (fun n d => r_aloadn gx130_16 rfl) ?_)
    refine pt_d (pt_1 (fun n d => r_iloadn gx130_17 rfl) ?_)
    obtain ⟨pr23, H⟩ := H
    refine pt_d (pt_virt (as := [.int x1]) (r := [.int v1]) gx130_18 rfl (show zmt[131]? = some zM131 from rfl) rfl rfl rfl rfl (K131 S3 z1 pr23) (kqI (fun v23 y23 h_23 h23 P23 => ?_)))
    have S23 := P23.1
    have H := H y23 h_23 P23
    show Pt _ _ _ 21 _ [.int v23, .int v1] _ _
    refine pt_d (pt_icmp_ge gx130_21 h1 h23 (fun e24 => ?_) (fun e24 => ?_))
    · have H := H.1 e24
      refine pt_d (pt_iconst gx130_28 (fun v25 h25 => ?_))
      refine pt_d (pt_stat (as := [.int v25]) (r := []) gx130_29 rfl (show zmt[127]? = some zM127 from rfl) rfl rfl rfl rfl (c_127 S23 h25) (kqP (fun v26 h26 => ?_)))
      show Pt _ _ _ 32 _ [.int v26] _ _
      exact pt_d (pt_iret gx130_32 ⟨_, rfl, by rw [h26]; exact H⟩)
    · have H := H.2 e24
      refine pt_d (pt_iconst gx130_24 (fun v27 h27 => ?_))
      refine pt_d (pt_1 (fun n d => r_goto gx130_25) ?_)
      refine pt_d (pt_stat (as := [.int v27]) (r := []) gx130_29 rfl (show zmt[127]? = some zM127 from rfl) rfl rfl rfl rfl (c_127 S23 h27) (kqP (fun v28 h28 => ?_)))
      show Pt _ _ _ 32 _ [.int v28] _ _
      exact pt_d (pt_iret gx130_32 ⟨_, rfl, by rw [h28]; exact H⟩)
theorem ev_132 {n : Nat} {X : aX} (C : ct132 (n + 1) X) (K : vt133 n X) (KL : vl132 n X) : vt132 (n + 1) X := by
  intro h x1 a1 S z1 hp
  refine pt_q (pt_and (C S z1 hp.1) (show Pt (n + 1) X zM132 0 [some (.ref 33), some (.int x1), none, none, none] [] h (qI (fun r h' => vRes 1 a1 (vw h) r (vw h'))) from ?_)) ?_
  · refine g132_0 S z1 K ⟨hp, fun y1 h1 k1 w2 w3 u4 g2 g3 => ?_⟩
    obtain ⟨I1, i1⟩ := cR_i hp.1.1 k1.2.1
    have b0 := hp.1.1.1
    refine pt_q (KL k1.1 z1 g2 g3 I1 hp.1.2.2.1 hp.1.2.2.2 (Int.le_refl _) (by omega) ((c13 k1.2.1).trans hp.2)) ?_
    rintro v h' ⟨x, ex, p⟩
    exact ⟨x, ex, v_seq ksq1 hp.1.2.1 k1.2.2 p⟩
  · rintro v h' ⟨⟨x, rfl, p1, p2⟩, ⟨x', ev, p3⟩⟩
    exact ⟨x', ev, p1, p2, p3⟩
theorem fv_132 {n : Nat} {X : aX} (K : vt133 n X) (KL : vl132 n X) : vl132 (n + 1) X := by
  intro h x1 x2 x3 u4 a1 a2 a3 S z1 z2 z3 I o0 o1 i0 i1 n13
  have bI := I.1
  have bI2 := I.2.1
  have go : ∀ (c y4 : Int) (h4 : aH), opB 2 c = true → (c ≠ 1 ∧ c ≠ 2 ∧ c ≠ 3 ∧ c ≠ 4) → R125 (vw h) c y4 (vw h4) → y4 ≠ 0 → (cpre (vw h4) a1 ∧ vw h4 33 13 = ((43 : Nat) : Int)) ∧ ∀ (y : Int) (h12 : aH), (wS h12 ∧ cRes 0 a1 (vw h4) (vw h12) ∧ vRes 0 a1 (vw h4) y (vw h12)) → ∀ (w2 w3 : Int32) (u4 : Option Value), w2.toInt = bo c a2 y → w3.toInt = w32 (a3 + 1) → Pt n X zM132 8 [some (.ref 33), some (.int x1), some (.int w2), some (.int w3), u4] [] h12 (qI (fun r h' => vLo 2 a1 (vw h) a2 r (vw h'))) := by
    intro c y4 h4 hc nb k4 e4
    obtain ⟨I4, e12, e11⟩ := tk_i I k4 e4
    have m13 := (k13 k4).trans n13
    refine ⟨⟨⟨I4, e12, o0, o1⟩, m13⟩, fun y h12 k w2 w3 u4 g2 g3 => ?_⟩
    obtain ⟨S12, c1, v1⟩ := k
    obtain ⟨I12, j12⟩ := cR_i I4 c1
    replace g3 := w_1 g3 (by omega) (by omega)
    refine pt_q (KL S12 z1 g2 g3 I12 o0 o1 (by omega) (by omega) ((c13 c1).trans m13)) ?_
    rintro v h' ⟨x, ex, p⟩
    exact ⟨x, ex, v_step klp2 k4 e4 hc nb v1 rfl p⟩
  refine g132_8 S z1 z2 z3 K ⟨fun e => v_out klp2 (fun _ => by rw [at_end I e i1]; rfl), fun e => ⟨⟨I, by decide, by decide⟩, fun y0 h0 k0 => ?_⟩⟩
  have r0 := k0.2
  refine ⟨fun e0 => ⟨⟨by rw [(tk_0 r0 e0).1]; exact I, by decide, by decide⟩, fun y1 h1 k1 => ?_⟩, fun e0 => ⟨(go 42 y0 h0 rfl (by decide) r0 e0).1, fun y h9 k => fun w2 w3 u4 g2 g3 => (go 42 y0 h0 rfl (by decide) r0 e0).2 _ _ k w2 w3 u4 (by rw [g2, bo_42]) g3⟩⟩
  obtain ⟨v0, n0⟩ := tk_0 r0 e0
  have r1 : R125 (vw h) 47 y1 (vw h1) := by rw [← v0]; exact k1.2
  refine ⟨fun e1 => ⟨⟨by rw [(tk_0 r1 e1).1]; exact I, by decide, by decide⟩, fun y2 h2 k2 => ?_⟩, fun e1 => ⟨(go 47 y1 h1 rfl (by decide) r1 e1).1, fun y h9 k => ⟨fun z => fun w2 w3 u4 g2 g3 => (go 47 y1 h1 rfl (by decide) r1 e1).2 _ _ k w2 w3 u4 (by rw [g2, bo_47, if_neg z]) g3, fun z => fun w2 w3 u4 g2 g3 => (go 47 y1 h1 rfl (by decide) r1 e1).2 _ _ k w2 w3 u4 (by rw [g2, bo_47, if_pos z]) g3⟩⟩⟩
  obtain ⟨v1, n1⟩ := tk_0 r1 e1
  have r2 : R125 (vw h) 37 y2 (vw h2) := by rw [← v1]; exact k2.2
  refine ⟨fun e2 => ?_, fun e2 => ⟨(go 37 y2 h2 rfl (by decide) r2 e2).1, fun y h9 k => ⟨fun z => fun w2 w3 u4 g2 g3 => (go 37 y2 h2 rfl (by decide) r2 e2).2 _ _ k w2 w3 u4 (by rw [g2, bo_37, if_neg z]) g3, fun z => fun w2 w3 u4 g2 g3 => (go 37 y2 h2 rfl (by decide) r2 e2).2 _ _ k w2 w3 u4 (by rw [g2, bo_37, if_pos z]) g3⟩⟩⟩
  obtain ⟨v2, n2⟩ := tk_0 r2 e2
  rw [v2]
  exact v_out klp2 (fun e12 => by show (((_ == 42 || _ == 47) || _ == 37)) = false; rw [beq_false_of_ne (n0 e12), beq_false_of_ne (n1 e12), beq_false_of_ne (n2 e12)]; rfl)
theorem ev_131 {n : Nat} {X : aX} (C : ct131 (n + 1) X) (K : vt132 n X) (KL : vl131 n X) : vt131 (n + 1) X := by
  intro h x1 a1 S z1 hp
  refine pt_q (pt_and (C S z1 hp.1) (show Pt (n + 1) X zM131 0 [some (.ref 33), some (.int x1), none, none] [] h (qI (fun r h' => vRes 3 a1 (vw h) r (vw h'))) from ?_)) ?_
  · refine g131_0 S z1 K ⟨hp, fun y1 h1 k1 w2 w3 g2 g3 => ?_⟩
    obtain ⟨I1, i1⟩ := cR_i hp.1.1 k1.2.1
    have b0 := hp.1.1.1
    refine pt_q (KL k1.1 z1 g2 g3 I1 hp.1.2.2.1 hp.1.2.2.2 (Int.le_refl _) (by omega) ((c13 k1.2.1).trans hp.2)) ?_
    rintro v h' ⟨x, ex, p⟩
    exact ⟨x, ex, v_seq ksq3 hp.1.2.1 k1.2.2 p⟩
  · rintro v h' ⟨⟨x, rfl, p1, p2⟩, ⟨x', ev, p3⟩⟩
    exact ⟨x', ev, p1, p2, p3⟩
theorem fv_131 {n : Nat} {X : aX} (K : vt132 n X) (KL : vl131 n X) : vl131 (n + 1) X := by
  intro h x1 x2 x3 a1 a2 a3 S z1 z2 z3 I o0 o1 i0 i1 n13
  have bI := I.1
  have bI2 := I.2.1
  have go : ∀ (c y4 : Int) (h4 : aH), opB 4 c = true → (c ≠ 1 ∧ c ≠ 2 ∧ c ≠ 3 ∧ c ≠ 4) → R125 (vw h) c y4 (vw h4) → y4 ≠ 0 → (cpre (vw h4) a1 ∧ vw h4 33 13 = ((43 : Nat) : Int)) ∧ ∀ (y : Int) (h12 : aH), (wS h12 ∧ cRes 1 a1 (vw h4) (vw h12) ∧ vRes 1 a1 (vw h4) y (vw h12)) → ∀ (w2 w3 : Int32), w2.toInt = bo c a2 y → w3.toInt = w32 (a3 + 1) → Pt n X zM131 8 [some (.ref 33), some (.int x1), some (.int w2), some (.int w3)] [] h12 (qI (fun r h' => vLo 4 a1 (vw h) a2 r (vw h'))) := by
    intro c y4 h4 hc nb k4 e4
    obtain ⟨I4, e12, e11⟩ := tk_i I k4 e4
    have m13 := (k13 k4).trans n13
    refine ⟨⟨⟨I4, e12, o0, o1⟩, m13⟩, fun y h12 k w2 w3 g2 g3 => ?_⟩
    obtain ⟨S12, c1, v1⟩ := k
    obtain ⟨I12, j12⟩ := cR_i I4 c1
    replace g3 := w_1 g3 (by omega) (by omega)
    refine pt_q (KL S12 z1 g2 g3 I12 o0 o1 (by omega) (by omega) ((c13 c1).trans m13)) ?_
    rintro v h' ⟨x, ex, p⟩
    exact ⟨x, ex, v_step klp4 k4 e4 hc nb v1 rfl p⟩
  refine g131_8 S z1 z2 z3 K ⟨fun e => v_out klp4 (fun _ => by rw [at_end I e i1]; rfl), fun e => ⟨⟨I, by decide, by decide⟩, fun y0 h0 k0 => ?_⟩⟩
  have r0 := k0.2
  refine ⟨fun e0 => ⟨⟨by rw [(tk_0 r0 e0).1]; exact I, by decide, by decide⟩, fun y1 h1 k1 => ?_⟩, fun e0 => ⟨(go 43 y0 h0 rfl (by decide) r0 e0).1, fun y h9 k => fun w2 w3 g2 g3 => (go 43 y0 h0 rfl (by decide) r0 e0).2 _ _ k w2 w3 (by rw [g2, bo_43]) g3⟩⟩
  obtain ⟨v0, n0⟩ := tk_0 r0 e0
  have r1 : R125 (vw h) 45 y1 (vw h1) := by rw [← v0]; exact k1.2
  refine ⟨fun e1 => ?_, fun e1 => ⟨(go 45 y1 h1 rfl (by decide) r1 e1).1, fun y h9 k => fun w2 w3 g2 g3 => (go 45 y1 h1 rfl (by decide) r1 e1).2 _ _ k w2 w3 (by rw [g2, bo_45]) g3⟩⟩
  obtain ⟨v1, n1⟩ := tk_0 r1 e1
  rw [v1]
  exact v_out klp4 (fun e12 => by show ((_ == 43 || _ == 45)) = false; rw [beq_false_of_ne (n0 e12), beq_false_of_ne (n1 e12)]; rfl)
theorem ev_129 {n : Nat} {X : aX} (C : ct129 (n + 1) X) (K : vt130 n X) (KL : vl129 n X) : vt129 (n + 1) X := by
  intro h x1 a1 S z1 hp
  refine pt_q (pt_and (C S z1 hp.1) (show Pt (n + 1) X zM129 0 [some (.ref 33), some (.int x1), none, none, none] [] h (qI (fun r h' => vRes 6 a1 (vw h) r (vw h'))) from ?_)) ?_
  · refine g129_0 S z1 K ⟨hp, fun y1 h1 k1 w2 w3 u4 g2 g3 => ?_⟩
    obtain ⟨I1, i1⟩ := cR_i hp.1.1 k1.2.1
    have b0 := hp.1.1.1
    refine pt_q (KL k1.1 z1 g2 g3 I1 hp.1.2.2.1 hp.1.2.2.2 (Int.le_refl _) (by omega) ((c13 k1.2.1).trans hp.2)) ?_
    rintro v h' ⟨x, ex, p⟩
    exact ⟨x, ex, v_seq ksq6 hp.1.2.1 k1.2.2 p⟩
  · rintro v h' ⟨⟨x, rfl, p1, p2⟩, ⟨x', ev, p3⟩⟩
    exact ⟨x', ev, p1, p2, p3⟩
theorem fv_129 {n : Nat} {X : aX} (K : vt130 n X) (KL : vl129 n X) : vl129 (n + 1) X := by
  intro h x1 x2 x3 u4 a1 a2 a3 S z1 z2 z3 I o0 o1 i0 i1 n13
  have bI := I.1
  have bI2 := I.2.1
  have go : ∀ (c y4 : Int) (h4 : aH), opB 7 c = true → (c ≠ 1 ∧ c ≠ 2 ∧ c ≠ 3 ∧ c ≠ 4) → R125 (vw h) c y4 (vw h4) → y4 ≠ 0 → (cpre (vw h4) a1 ∧ vw h4 33 13 = ((43 : Nat) : Int)) ∧ ∀ (y : Int) (h12 : aH), (wS h12 ∧ cRes 5 a1 (vw h4) (vw h12) ∧ vRes 5 a1 (vw h4) y (vw h12)) → ∀ (w2 w3 : Int32) (u4 : Option Value), w2.toInt = bo c a2 y → w3.toInt = w32 (a3 + 1) → Pt n X zM129 8 [some (.ref 33), some (.int x1), some (.int w2), some (.int w3), u4] [] h12 (qI (fun r h' => vLo 7 a1 (vw h) a2 r (vw h'))) := by
    intro c y4 h4 hc nb k4 e4
    obtain ⟨I4, e12, e11⟩ := tk_i I k4 e4
    have m13 := (k13 k4).trans n13
    refine ⟨⟨⟨I4, e12, o0, o1⟩, m13⟩, fun y h12 k w2 w3 u4 g2 g3 => ?_⟩
    obtain ⟨S12, c1, v1⟩ := k
    obtain ⟨I12, j12⟩ := cR_i I4 c1
    replace g3 := w_1 g3 (by omega) (by omega)
    refine pt_q (KL S12 z1 g2 g3 I12 o0 o1 (by omega) (by omega) ((c13 c1).trans m13)) ?_
    rintro v h' ⟨x, ex, p⟩
    exact ⟨x, ex, v_step klp7 k4 e4 hc nb v1 rfl p⟩
  refine g129_8 S z1 z2 z3 K ⟨fun e => v_out klp7 (fun _ => by rw [at_end I e i1]; rfl), fun e => ⟨⟨I, by decide, by decide⟩, fun y0 h0 k0 => ?_⟩⟩
  have r0 := k0.2
  refine ⟨fun e0 => ?_, fun e0 => ⟨(go 38 y0 h0 rfl (by decide) r0 e0).1, fun y h9 k => ⟨fun z => fun w2 w3 u4 g2 g3 => (go 38 y0 h0 rfl (by decide) r0 e0).2 _ _ k w2 w3 u4 (by rw [g2, i01, bo_38, bI_f (fun w => w.1 z)]) g3, fun z => ⟨fun z2 => fun w2 w3 u4 g2 g3 => (go 38 y0 h0 rfl (by decide) r0 e0).2 _ _ k w2 w3 u4 (by rw [g2, i01, bo_38, bI_f (fun w => w.2 z2)]) g3, fun z2 => fun w2 w3 u4 g2 g3 => (go 38 y0 h0 rfl (by decide) r0 e0).2 _ _ k w2 w3 u4 (by rw [g2, i11, bo_38, bI_t ⟨z, z2⟩]) g3⟩⟩⟩⟩
  obtain ⟨v0, n0⟩ := tk_0 r0 e0
  rw [v0]
  exact v_out klp7 (fun e12 => by show (_ == 38) = false; rw [beq_false_of_ne (n0 e12)])
theorem ev_128 {n : Nat} {X : aX} (C : ct128 (n + 1) X) (K : vt129 n X) (KL : vl128 n X) : vt128 (n + 1) X := by
  intro h x1 a1 S z1 hp
  refine pt_q (pt_and (C S z1 hp.1) (show Pt (n + 1) X zM128 0 [some (.ref 33), some (.int x1), none, none, none] [] h (qI (fun r h' => vRes 8 a1 (vw h) r (vw h'))) from ?_)) ?_
  · refine g128_0 S z1 K ⟨hp, fun y1 h1 k1 w2 w3 u4 g2 g3 => ?_⟩
    obtain ⟨I1, i1⟩ := cR_i hp.1.1 k1.2.1
    have b0 := hp.1.1.1
    refine pt_q (KL k1.1 z1 g2 g3 I1 hp.1.2.2.1 hp.1.2.2.2 (Int.le_refl _) (by omega) ((c13 k1.2.1).trans hp.2)) ?_
    rintro v h' ⟨x, ex, p⟩
    exact ⟨x, ex, v_seq ksq8 hp.1.2.1 k1.2.2 p⟩
  · rintro v h' ⟨⟨x, rfl, p1, p2⟩, ⟨x', ev, p3⟩⟩
    exact ⟨x', ev, p1, p2, p3⟩
theorem fv_128 {n : Nat} {X : aX} (K : vt129 n X) (KL : vl128 n X) : vl128 (n + 1) X := by
  intro h x1 x2 x3 u4 a1 a2 a3 S z1 z2 z3 I o0 o1 i0 i1 n13
  have bI := I.1
  have bI2 := I.2.1
  have go : ∀ (c y4 : Int) (h4 : aH), opB 9 c = true → (c ≠ 1 ∧ c ≠ 2 ∧ c ≠ 3 ∧ c ≠ 4) → R125 (vw h) c y4 (vw h4) → y4 ≠ 0 → (cpre (vw h4) a1 ∧ vw h4 33 13 = ((43 : Nat) : Int)) ∧ ∀ (y : Int) (h12 : aH), (wS h12 ∧ cRes 6 a1 (vw h4) (vw h12) ∧ vRes 6 a1 (vw h4) y (vw h12)) → ∀ (w2 w3 : Int32) (u4 : Option Value), w2.toInt = bo c a2 y → w3.toInt = w32 (a3 + 1) → Pt n X zM128 8 [some (.ref 33), some (.int x1), some (.int w2), some (.int w3), u4] [] h12 (qI (fun r h' => vLo 9 a1 (vw h) a2 r (vw h'))) := by
    intro c y4 h4 hc nb k4 e4
    obtain ⟨I4, e12, e11⟩ := tk_i I k4 e4
    have m13 := (k13 k4).trans n13
    refine ⟨⟨⟨I4, e12, o0, o1⟩, m13⟩, fun y h12 k w2 w3 u4 g2 g3 => ?_⟩
    obtain ⟨S12, c1, v1⟩ := k
    obtain ⟨I12, j12⟩ := cR_i I4 c1
    replace g3 := w_1 g3 (by omega) (by omega)
    refine pt_q (KL S12 z1 g2 g3 I12 o0 o1 (by omega) (by omega) ((c13 c1).trans m13)) ?_
    rintro v h' ⟨x, ex, p⟩
    exact ⟨x, ex, v_step klp9 k4 e4 hc nb v1 rfl p⟩
  refine g128_8 S z1 z2 z3 K ⟨fun e => v_out klp9 (fun _ => by rw [at_end I e i1]; rfl), fun e => ⟨⟨I, by decide, by decide⟩, fun y0 h0 k0 => ?_⟩⟩
  have r0 := k0.2
  refine ⟨fun e0 => ?_, fun e0 => ⟨(go 124 y0 h0 rfl (by decide) r0 e0).1, fun y h9 k => ⟨fun z => fun w2 w3 u4 g2 g3 => (go 124 y0 h0 rfl (by decide) r0 e0).2 _ _ k w2 w3 u4 (by rw [g2, i11, bo_124, bI_t (Or.inl z)]) g3, fun z => ⟨fun z2 => fun w2 w3 u4 g2 g3 => (go 124 y0 h0 rfl (by decide) r0 e0).2 _ _ k w2 w3 u4 (by rw [g2, i01, bo_124, bI_f (fun w => w.elim (fun w => w z) (fun w => w z2))]) g3, fun z2 => fun w2 w3 u4 g2 g3 => (go 124 y0 h0 rfl (by decide) r0 e0).2 _ _ k w2 w3 u4 (by rw [g2, i11, bo_124, bI_t (Or.inr z2)]) g3⟩⟩⟩⟩
  obtain ⟨v0, n0⟩ := tk_0 r0 e0
  rw [v0]
  exact v_out klp9 (fun e12 => by show (_ == 124) = false; rw [beq_false_of_ne (n0 e12)])
end
section
-- ===== the class works a text out =====
section VC
variable {o : Int} {V V1 V4 V' : vS}
-- one comparison, or none
theorem v_cmp0 {y : Int} (e12 : V 33 12 = -1) (c1 : vRes 3 o V y V1) (h : opB 12 (cTx V1 (V1 33 11)) = false) : vRes 5 o V y V1 := by
  intro q L d
  obtain ⟨q1, L1, L2, d1, d2, rfl⟩ := kq_x ksq5 d
  obtain ⟨e1, r1⟩ := c1 q1 L1 d1
  obtain ⟨s1, s2, s3, s4⟩ := v_st e1
  rw [s1, s2] at h
  rcases kc_x d2 with ⟨-, rfl, rfl⟩ | ⟨z, -⟩
  · exact ⟨e1, fun st => by rw [List.append_nil]; exact r1 st⟩
  · rw [h] at z
    cases z
theorem v_cmp1 {c y y1 y2 r : Int} (e12 : V 33 12 = -1) (c1 : vRes 3 o V y1 V1) (k : R125 V1 c y V4) (hy : y ≠ 0) (hc : opB 12 c = true) (nb : c ≠ 1 ∧ c ≠ 2 ∧ c ≠ 3 ∧ c ≠ 4) (c2 : vRes 3 o V4 y2 V') (er : r = bo c y1 y2) : vRes 5 o V r V' := by
  intro q L d
  obtain ⟨q1, L1, L2, d1, d2, rfl⟩ := kq_x ksq5 d
  obtain ⟨e1, r1⟩ := c1 q1 L1 d1
  obtain ⟨s1, s2, s3, s4⟩ := v_st e1
  obtain ⟨⟨k1, k2, k3⟩, k4⟩ := tk_1 k hy
  obtain ⟨u1, u2, u3, u4⟩ := v_st k4
  rw [s1, s2] at k2
  rcases kc_x d2 with ⟨z, -⟩ | ⟨-, L3, d3, rfl⟩
  · rw [k2, hc] at z
    cases z
  · obtain ⟨e2, r2⟩ := c2 q L3 (by rw [u1, s1, u2, s2]; exact d3)
    refine ⟨by rw [e2, k4, e1, up_up, up_up], fun st => ?_⟩
    have r2' := r2 (y1 :: st)
    rw [u4, s4] at r2'
    rw [run_a, r1, run_a, r2', run_c, k2, stp_b nb, ← er]
    rfl
end VC
theorem ev_130 {n : Nat} {X : aX} (C : ct130 (n + 1) X) (K : vt131 n X) : vt130 (n + 1) X := by
  intro h x1 a1 S z1 hp
  refine pt_q (pt_and (C S z1 hp.1) (show Pt (n + 1) X zM130 0 [some (.ref 33), some (.int x1), none] [] h (qI (fun r h' => vRes 5 a1 (vw h) r (vw h'))) from ?_)) ?_
  · refine g130_0 S z1 K ⟨hp, fun y1 h1 k1 => ?_⟩
    obtain ⟨S1, c1, v1⟩ := k1
    obtain ⟨I1, i1⟩ := cR_i hp.1.1 c1
    have m1 := (c13 c1).trans hp.2
    have go : ∀ (c y4 : Int) (h4 : aH), opB 12 c = true → (c ≠ 1 ∧ c ≠ 2 ∧ c ≠ 3 ∧ c ≠ 4) → R125 (vw h1) c y4 (vw h4) → y4 ≠ 0 → (cpre (vw h4) a1 ∧ vw h4 33 13 = ((43 : Nat) : Int)) ∧ ∀ (y : Int) (h12 : aH), (wS h12 ∧ cRes 3 a1 (vw h4) (vw h12) ∧ vRes 3 a1 (vw h4) y (vw h12)) → ∀ r : Int, r = bo c y1 y → vRes 5 a1 (vw h) r (vw h12) := by
      intro c y4 h4 hc nb k4 e4
      obtain ⟨I4, e12, e11⟩ := tk_i I1 k4 e4
      exact ⟨⟨⟨I4, e12, hp.1.2.2⟩, (k13 k4).trans m1⟩, fun y h12 k r er => v_cmp1 hp.1.2.1 v1 k4 e4 hc nb k.2.2 er⟩
    refine ⟨⟨I1, by decide, by decide⟩, fun y3 h3 k3 => ⟨fun e3 => ⟨⟨by rw [(tk_0 k3.2 e3).1]; exact I1, by decide, by decide⟩, fun y6 h6 k6 => ?_⟩, fun e3 => ⟨(go 60 y3 h3 rfl (by decide) k3.2 e3).1, fun y h9 k => ⟨fun z => (go 60 y3 h3 rfl (by decide) k3.2 e3).2 y h9 k _ (by rw [i01, bo_60, bI_f (by omega)]), fun z => (go 60 y3 h3 rfl (by decide) k3.2 e3).2 y h9 k _ (by rw [i11, bo_60, bI_t z])⟩⟩⟩⟩
    obtain ⟨v3, n3⟩ := tk_0 k3.2 e3
    have r6 : R125 (vw h1) 61 y6 (vw h6) := by rw [← v3]; exact k6.2
    refine ⟨fun e6 => ⟨⟨by rw [(tk_0 r6 e6).1]; exact I1, by decide, by decide⟩, fun y9 h9 k9 => ?_⟩, fun e6 => ⟨(go 61 y6 h6 rfl (by decide) r6 e6).1, fun y h9 k => ⟨fun z => (go 61 y6 h6 rfl (by decide) r6 e6).2 y h9 k _ (by rw [i01, bo_61, bI_f z]), fun z => (go 61 y6 h6 rfl (by decide) r6 e6).2 y h9 k _ (by rw [i11, bo_61, bI_t z])⟩⟩⟩
    obtain ⟨v6, n6⟩ := tk_0 r6 e6
    have r9 : R125 (vw h1) 62 y9 (vw h9) := by rw [← v6]; exact k9.2
    refine ⟨fun e9 => ?_, fun e9 => ⟨(go 62 y9 h9 rfl (by decide) r9 e9).1, fun y h11 k => ⟨fun z => (go 62 y9 h9 rfl (by decide) r9 e9).2 y h11 k _ (by rw [i01, bo_62, bI_f (by omega)]), fun z => (go 62 y9 h9 rfl (by decide) r9 e9).2 y h11 k _ (by rw [i11, bo_62, bI_t z])⟩⟩⟩
    obtain ⟨v9, n9⟩ := tk_0 r9 e9
    rw [v9]
    by_cases f1 : vw h1 33 12 = -1
    · refine v_cmp0 hp.1.2.1 v1 ?_
      show ((_ == 60 || _ == 61) || _ == 62) = false
      rw [beq_false_of_ne (n3 f1), beq_false_of_ne (n6 f1), beq_false_of_ne (n9 f1)]
      rfl
    · intro q L d
      obtain ⟨q1, L1, L2, d1, d2, rfl⟩ := kq_x ksq5 d
      obtain ⟨e1, -⟩ := v1 q1 L1 d1
      exact absurd ((v_st e1).2.2.1.trans hp.1.2.1) f1
  · rintro v h' ⟨⟨x, rfl, p1, p2⟩, ⟨x', ev, p3⟩⟩
    exact ⟨x', ev, p1, p2, p3⟩
end
section
-- ===== the class works a text out =====
theorem b255 : ∀ t : Fin 128, bAnd (t.val : Int) 255 = (t.val : Int) := by decide +kernel
theorem cSg_v {V : vS} (I : tIn V) (h : V 33 12 = -1) (hp : 0 ≤ cTx V (V 33 11)) : cSg V = cTx V (V 33 11) ∧ cTx V (V 33 11) < 128 := by
  have b := I.1
  have b2 := I.2.1
  have b3 := I.2.2.1
  by_cases z : V 33 11 < V 33 10
  · have e : cTx V (V 33 11) = V 35 (V 33 9 + V 33 11) := if_pos ⟨b.1, z⟩
    have r := I.2.2.2 (V 33 9 + V 33 11) (by omega) (by omega)
    rw [e] at hp ⊢
    have c : cSg V = bAnd (V 35 (w32 (V 33 9 + V 33 11))) 255 := if_pos ⟨h, z⟩
    rw [c, w32_id (by omega) (by omega)]
    have k := b255 ⟨(V 35 (V 33 9 + V 33 11)).toNat, by omega⟩
    rw [show (((⟨(V 35 (V 33 9 + V 33 11)).toNat, by omega⟩ : Fin 128).val : Nat) : Int) = V 35 (V 33 9 + V 33 11) by show (((V 35 (V 33 9 + V 33 11)).toNat : Nat) : Int) = _; omega] at k
    exact ⟨k, by omega⟩
  · have e : cTx V (V 33 11) = -1 := if_neg (fun w => z w.2)
    rw [e] at hp
    omega
theorem nmI : ∀ t : Fin 128, nmB (t.val : Int) = true → iIx (bChr (t.val : Int)) = nmV (t.val : Int) := by decide +kernel
theorem nmB_r {t : Int} (h : nmB t = true) : 0 ≤ t ∧ t < 128 := by
  unfold nmB at h
  simp only [Bool.or_eq_true, beq_iff_eq] at h
  omega
theorem l_135v {X : aX} : ∀ (n : Nat) (h : aH) (x1 x2 : Int32) (j : Nat) (v : Int), wS h → tIn (vw h) → vw h 33 12 = -1 → j ≤ 6 → x1.toInt = v → x2.toInt = 6 - (j : Int) → Pt n X zM135 4 [some (.ref 33), some (.int x1), some (.int x2)] [] h (qI (fun r _ => r = dgVal (cTx (vw h)) j (vw h 33 11) v)) := by
  intro n
  induction n with
  | zero => intros; exact pt_z
  | succ n ih =>
    intro h x1 x2 j v S I e12 hj h1 h2
    have bI := I.1
    have bI2 := I.2.1
    refine d135_4 S h1 h2 ⟨fun e1 => ?_, fun e1 => ⟨fun e2 => ?_, fun e2 g S2 eg w1 w2 g1 g2 => ?_⟩⟩
    · obtain rfl : j = 0 := by omega
      rfl
    · obtain ⟨i, rfl⟩ : ∃ i, j = i + 1 := ⟨j - 1, by omega⟩
      have z : isD (cTx (vw h) (vw h 33 11)) = false := by
        cases w : isD (cTx (vw h) (vw h 33 11)) with
        | false => rfl
        | true => exact absurd ((cSg_d I e12).mpr w) e2
      show v = bif isD (cTx (vw h) (vw h 33 11)) then _ else v
      rw [z]
      rfl
    · obtain ⟨i, rfl⟩ : ∃ i, j = i + 1 := ⟨j - 1, by omega⟩
      have z := (cSg_d I e12).mp e2
      have pos : 48 ≤ cTx (vw h) (vw h 33 11) ∧ cTx (vw h) (vw h 33 11) ≤ 57 := of_decide_eq_true z
      have lt : vw h 33 11 < vw h 33 10 := cT_lt I (by omega)
      replace g2 := w_1 g2 (by omega) (by omega)
      rw [w32_id (by omega) (by omega)] at eg
      obtain ⟨s1, s2, s3, -⟩ := v_st eg
      have k := ih g w1 w2 i _ S2 (by
        obtain ⟨a, b, c, d⟩ := I
        rw [eg]
        refine ⟨?_, ?_, ?_, fun j u v => ?_⟩
        · rw [up_s, up_j (by decide)]
          omega
        · rw [up_j (by decide)]
          exact b
        · rw [up_j (by decide)]
          exact c
        · rw [up_c (by decide)]
          exact d j u v) (s3.trans e12) (by omega) g1 (by omega)
      refine pt_q k ?_
      rintro v' h' ⟨x, ex, r⟩
      refine ⟨x, ex, r.trans ?_⟩
      rw [s1, s2, (cSg_v I e12 (by omega)).1]
      show _ = bif isD (cTx (vw h) (vw h 33 11)) then _ else v
      rw [z]
      rfl
theorem c_135v {n : Nat} {X : aX} {h : aH} (S : wS h) (hp : tIn (vw h) ∧ vw h 33 12 = -1) : Pt n X zM135 0 [some (.ref 33), none, none] [] h (qI (fun r h' => wS h' ∧ vw h' = up (vw h) 33 11 (dgEnd (cTx (vw h)) 6 (vw h 33 11)) ∧ r = dgVal (cTx (vw h)) 6 (vw h 33 11) 0)) := by
  refine pt_q (pt_and (c_135 S hp) (show Pt n X zM135 0 [some (.ref 33), none, none] [] h (qI (fun r _ => r = dgVal (cTx (vw h)) 6 (vw h 33 11) 0)) from ?_)) ?_
  · exact pt_d (d135_0 S (fun w1 w2 g1 g2 => l_135v n h w1 w2 6 0 S hp.1 hp.2 (Nat.le_refl _) g1 (by rw [g2]; rfl)))
  · rintro v h' ⟨⟨x, rfl, p1, p2⟩, ⟨x', ev, p3⟩⟩
    exact ⟨x', ev, p1, p2, p3⟩
section VO
variable {o : Int} {V V1 V4 V' : vS}
theorem v_un {c y y2 r w : Int} (hc : (c = 33 ∧ w = 3) ∨ (c = 45 ∧ w = 4)) (wo : w32 (o + 1) = o + 1) (k : R125 V c y V4) (hy : y ≠ 0) (c1 : vRes 0 (w32 (o + 1)) V4 y2 V') (er : ∀ (N : Int → Int) st, stpP N w 0 (y2 :: st) = r :: st) : vRes 0 o V r V' := by
  intro q L d
  obtain ⟨⟨k1, k2, k3⟩, k4⟩ := tk_1 k hy
  obtain ⟨u1, u2, u3, u4⟩ := v_st k4
  rw [wo] at c1
  rcases ko_x d with ⟨a, -⟩ | ⟨-, n, w', L1, a, d1, rfl⟩ | ⟨-, n, a, -⟩ | ⟨-, ⟨a, b, -⟩, -⟩
  · rw [k2] at a
    rcases hc with ⟨rfl, -⟩ | ⟨rfl, -⟩ <;> cases a
  · rw [k2] at a
    obtain rfl : w' = w := by omega
    obtain ⟨e1, r1⟩ := c1 q L1 (by rw [u1, u2]; exact d1)
    refine ⟨by rw [e1, k4, up_up], fun st => ?_⟩
    have r1 := r1 st
    rw [u4] at r1
    rw [run_a, r1, run_c, er]
    rfl
  · rw [k2] at a
    omega
  · rw [k2] at a b
    omega
theorem v_br {y y2 y3 : Int} (wo : w32 (o + 1) = o + 1) (k : R125 V 40 y V4) (hy : y ≠ 0) (c1 : vRes 8 (w32 (o + 1)) V4 y2 V1) : (∀ V', R125 V1 41 y3 V' → y3 ≠ 0 → vRes 0 o V y2 V') ∧ (∀ V2 V', R125 V1 41 y3 V2 → y3 = 0 → vRes 0 o V y2 V') := by
  obtain ⟨⟨k1, k2, k3⟩, k4⟩ := tk_1 k hy
  obtain ⟨u1, u2, u3, u4⟩ := v_st k4
  rw [wo] at c1
  have go : ∀ q L, Cd (cTx V) 0 o (V 33 11) q L → ∃ q1, V1 = up V4 33 11 q1 ∧ (∀ st, run (fun j => V4 43 j) L st = y2 :: st) ∧ cTx V q1 = 41 ∧ q = q1 + 1 := fun q L d => by
    rcases ko_x d with ⟨a, -⟩ | ⟨-, n, w', L1, a, -⟩ | ⟨-, n, a, q1, d1, t1, e⟩ | ⟨-, ⟨-, -, a⟩, -⟩
    · rw [k2] at a
      cases a
    · rw [k2] at a
      omega
    · obtain ⟨e1, r1⟩ := c1 q1 L (by rw [u1, u2]; exact d1)
      exact ⟨q1, e1, r1, t1, e⟩
    · exact absurd k2 a
  refine ⟨fun V' k5 h3 q L d => ?_, fun V2 V' k5 h3 q L d => ?_⟩
  · obtain ⟨q1, e1, r1, t1, rfl⟩ := go q L d
    obtain ⟨s1, s2, s3, s4⟩ := v_st e1
    obtain ⟨-, e5⟩ := tk_1 k5 h3
    refine ⟨by rw [e5, s2, e1, k4, up_up, up_up], fun st => ?_⟩
    have r1 := r1 st
    rw [u4] at r1
    exact r1
  · obtain ⟨q1, e1, r1, t1, rfl⟩ := go q L d
    obtain ⟨s1, s2, s3, s4⟩ := v_st e1
    have n := (tk_0 k5 h3).2 (s3.trans (u3.trans k1))
    rw [s1, u1, s2] at n
    exact absurd t1 n
theorem v_no {r : Int} (h : ∀ q L, ¬ Cd (cTx V) 0 o (V 33 11) q L) : vRes 0 o V r V' := fun q L d => absurd d (h q L)
end VO

theorem g133_0 {n : Nat} {X : aX} {h : aH} {P : Int → aH → Prop} {x1 : Int32} {a1 : Int} (S : wS h) (z1 : x1.toInt = a1) (K133 : vt133 n X) (K128 : vt128 n X) (H : ((¬ (48 ≤ (cSg (vw h)) ∧ (cSg (vw h)) ≤ 57) → ((cSg (vw h) ≠ (-1) → ((iIx (bChr (cSg (vw h))) = (-1) → ((a1 < 8 → ((tIn (vw h) ∧ (0 : Int) ≤ 33 ∧ (33 : Int) ≤ 127) ∧ ∀ (y13 : Int) (h_13 : aH), (wS h_13 ∧ R125 (vw h) 33 y13 (vw h_13)) → ((y13 = 0 → ((tIn (vw h_13) ∧ (0 : Int) ≤ 45 ∧ (45 : Int) ≤ 127) ∧ ∀ (y16 : Int) (h_16 : aH), (wS h_16 ∧ R125 (vw h_13) 45 y16 (vw h_16)) → ((y16 = 0 → ((tIn (vw h_16) ∧ (0 : Int) ≤ 40 ∧ (40 : Int) ≤ 127) ∧ ∀ (y19 : Int) (h_19 : aH), (wS h_19 ∧ R125 (vw h_16) 40 y19 (vw h_19)) → ((y19 ≠ 0 → ((cpre (vw h_19) (w32 (a1 + 1)) ∧ vw h_19 33 13 = ((43 : Nat) : Int)) ∧ ∀ (y23 : Int) (h_23 : aH), (wS h_23 ∧ cRes 8 (w32 (a1 + 1)) (vw h_19) (vw h_23) ∧ vRes 8 (w32 (a1 + 1)) (vw h_19) y23 (vw h_23)) → ((tIn (vw h_23) ∧ (0 : Int) ≤ 41 ∧ (41 : Int) ≤ 127) ∧ ∀ (y25 : Int) (h_25 : aH), (wS h_25 ∧ R125 (vw h_23) 41 y25 (vw h_25)) → ((y25 ≠ 0 → P y23 h_25) ∧ (y25 = 0 → ∀ (h_27 : aH), (wS h_27 ∧ R126 (vw h_25) (vw h_27)) → P y23 h_27))))) ∧ (y19 = 0 → ∀ (h_28 : aH), (wS h_28 ∧ R126 (vw h_19) (vw h_28)) → P 0 h_28)))) ∧ (y16 ≠ 0 → ((cpre (vw h_16) (w32 (a1 + 1)) ∧ vw h_16 33 13 = ((43 : Nat) : Int)) ∧ ∀ (y32 : Int) (h_32 : aH), (wS h_32 ∧ cRes 0 (w32 (a1 + 1)) (vw h_16) (vw h_32) ∧ vRes 0 (w32 (a1 + 1)) (vw h_16) y32 (vw h_32)) → P (w32 (-y32)) h_32))))) ∧ (y13 ≠ 0 → ((cpre (vw h_13) (w32 (a1 + 1)) ∧ vw h_13 33 13 = ((43 : Nat) : Int)) ∧ ∀ (y36 : Int) (h_36 : aH), (wS h_36 ∧ cRes 0 (w32 (a1 + 1)) (vw h_13) (vw h_36) ∧ vRes 0 (w32 (a1 + 1)) (vw h_13) y36 (vw h_36)) → ((y36 ≠ 0 → P (if (0 : Int) = 0 then 0 else 1) h_36) ∧ (y36 = 0 → P (if (1 : Int) = 0 then 0 else 1) h_36))))))) ∧ (8 ≤ a1 → ∀ (h_42 : aH), (wS h_42 ∧ R126 (vw h) (vw h_42)) → P 0 h_42))) ∧ (iIx (bChr (cSg (vw h))) ≠ (-1) → ∀ h_47 : aH, wS h_47 → vw h_47 = up (vw h) 33 11 (w32 ((vw h 33 11) + 1)) → ((vw h_47 33 13 = -1 → True) ∧ (∀ q48 : Nat, (q48 : Int) = vw h_47 33 13 → (0 ≤ iIx (bChr (cSg (vw h))) → P (vw h_47 q48 (iIx (bChr (cSg (vw h))))) h_47)))))) ∧ (cSg (vw h) = (-1) → ((a1 < 8 → ((tIn (vw h) ∧ (0 : Int) ≤ 33 ∧ (33 : Int) ≤ 127) ∧ ∀ (y57 : Int) (h_57 : aH), (wS h_57 ∧ R125 (vw h) 33 y57 (vw h_57)) → ((y57 = 0 → ((tIn (vw h_57) ∧ (0 : Int) ≤ 45 ∧ (45 : Int) ≤ 127) ∧ ∀ (y60 : Int) (h_60 : aH), (wS h_60 ∧ R125 (vw h_57) 45 y60 (vw h_60)) → ((y60 = 0 → ((tIn (vw h_60) ∧ (0 : Int) ≤ 40 ∧ (40 : Int) ≤ 127) ∧ ∀ (y63 : Int) (h_63 : aH), (wS h_63 ∧ R125 (vw h_60) 40 y63 (vw h_63)) → ((y63 ≠ 0 → ((cpre (vw h_63) (w32 (a1 + 1)) ∧ vw h_63 33 13 = ((43 : Nat) : Int)) ∧ ∀ (y67 : Int) (h_67 : aH), (wS h_67 ∧ cRes 8 (w32 (a1 + 1)) (vw h_63) (vw h_67) ∧ vRes 8 (w32 (a1 + 1)) (vw h_63) y67 (vw h_67)) → ((tIn (vw h_67) ∧ (0 : Int) ≤ 41 ∧ (41 : Int) ≤ 127) ∧ ∀ (y69 : Int) (h_69 : aH), (wS h_69 ∧ R125 (vw h_67) 41 y69 (vw h_69)) → ((y69 ≠ 0 → P y67 h_69) ∧ (y69 = 0 → ∀ (h_71 : aH), (wS h_71 ∧ R126 (vw h_69) (vw h_71)) → P y67 h_71))))) ∧ (y63 = 0 → ∀ (h_72 : aH), (wS h_72 ∧ R126 (vw h_63) (vw h_72)) → P 0 h_72)))) ∧ (y60 ≠ 0 → ((cpre (vw h_60) (w32 (a1 + 1)) ∧ vw h_60 33 13 = ((43 : Nat) : Int)) ∧ ∀ (y76 : Int) (h_76 : aH), (wS h_76 ∧ cRes 0 (w32 (a1 + 1)) (vw h_60) (vw h_76) ∧ vRes 0 (w32 (a1 + 1)) (vw h_60) y76 (vw h_76)) → P (w32 (-y76)) h_76))))) ∧ (y57 ≠ 0 → ((cpre (vw h_57) (w32 (a1 + 1)) ∧ vw h_57 33 13 = ((43 : Nat) : Int)) ∧ ∀ (y80 : Int) (h_80 : aH), (wS h_80 ∧ cRes 0 (w32 (a1 + 1)) (vw h_57) (vw h_80) ∧ vRes 0 (w32 (a1 + 1)) (vw h_57) y80 (vw h_80)) → ((y80 ≠ 0 → P (if (0 : Int) = 0 then 0 else 1) h_80) ∧ (y80 = 0 → P (if (1 : Int) = 0 then 0 else 1) h_80))))))) ∧ (8 ≤ a1 → ∀ (h_86 : aH), (wS h_86 ∧ R126 (vw h) (vw h_86)) → P 0 h_86))))) ∧ ((48 ≤ (cSg (vw h)) ∧ (cSg (vw h)) ≤ 57) → ((tIn (vw h) ∧ vw h 33 12 = -1) ∧ ∀ (y88 : Int) (h_88 : aH), (wS h_88 ∧ vw h_88 = up (vw h) 33 11 (dgEnd (cTx (vw h)) 6 (vw h 33 11)) ∧ y88 = dgVal (cTx (vw h)) 6 (vw h 33 11) 0) → P y88 h_88)))) : Pt (n + 1) X zM133 0 [some (.ref 33), some (.int x1), none, none, none] [] h (qI P) := by
  refine pt_1 (fun n d => r_aloadn gx133_0 rfl) ?_
  refine pt_d (pt_virt (as := []) (r := []) gx133_1 rfl (show zmt[124]? = some zM124 from rfl) rfl rfl rfl rfl (c_124 S) (kqP (fun v1 h1 => ?_)))
  show Pt _ _ _ 4 _ [.int v1] _ _
  refine pt_d (pt_1 (fun n d => r_istoren (L' := [some (.ref 33), some (.int x1), some (.int v1), none, none]) gx133_4 rfl rfl) ?_)
  refine pt_d (pt_1 (fun n d => r_iloadn gx133_5 rfl) ?_)
  refine pt_d (pt_stat (as := [.int v1]) (r := []) gx133_6 rfl (show zmt[134]? = some zM134 from rfl) rfl rfl rfl rfl (c_134 S h1) (kqP (fun v2 h2 => ?_)))
  show Pt _ _ _ 9 _ [.int v2] _ _
  refine pt_d (pt_ifB_eq gx133_9 h2 (fun e3 => ?_) (fun e3 => ?_))
  · have H := H.1 e3
    refine pt_d (pt_1 (fun n d => r_iloadn gx133_17 rfl) ?_)
    refine pt_d (pt_iconst gx133_18 (fun v4 h4 => ?_))
    refine pt_d (pt_icmp_ne gx133_19 h1 h4 (fun e5 => ?_) (fun e5 => ?_))
    · have H := H.1 e5
      refine pt_d (pt_1 (fun n d => r_ldcS gx133_26) ?_)
      refine pt_d (pt_1 (fun n d => r_iloadn gx133_28 rfl) ?_)
      refine pt_d (pt_i2c gx133_29 h1 (fun v6 h6 => ?_))
      refine pt_d (pt_ix gx133_30 rfl h6 (fun v7 h7 => ?_))
      refine pt_d (pt_1 (fun n d => r_istoren (L' := [some (.ref 33), some (.int x1), some (.int v1), some (.int v7), none]) gx133_33 rfl rfl) ?_)
      refine pt_d (pt_1 (fun n d => r_iloadn gx133_34 rfl) ?_)
      refine pt_d (pt_iconst gx133_35 (fun v8 h8 => ?_))
      refine pt_d (pt_icmp_eq gx133_36 h7 h8 (fun e9 => ?_) (fun e9 => ?_))
      · have H := H.1 e9
        refine pt_d (pt_1 (fun n d => r_iloadn gx133_56 rfl) ?_)
        refine pt_d (pt_bipush gx133_57 (fun v10 h10 => ?_))
        refine pt_d (pt_icmp_lt gx133_59 z1 h10 (fun e11 => ?_) (fun e11 => ?_))
        · have H := H.1 e11
          refine pt_d (pt_1 (fun n d => r_aloadn gx133_68 rfl) ?_)
          refine pt_d (pt_bipush gx133_69 (fun v12 h12 => ?_))
          obtain ⟨pr13, H⟩ := H
          refine pt_d (pt_virt (as := [.int v12]) (r := []) gx133_71 rfl (show zmt[125]? = some zM125 from rfl) rfl rfl rfl rfl (c_125 S h12 pr13) (kqI (fun v13 y13 h_13 h13 P13 => ?_)))
          have S13 := P13.1
          have H := H y13 h_13 P13
          show Pt _ _ _ 74 _ [.int v13] _ _
          refine pt_d (pt_if_eq gx133_74 h13 (fun e14 => ?_) (fun e14 => ?_))
          · have H := H.1 e14
            refine pt_d (pt_1 (fun n d => r_aloadn gx133_96 rfl) ?_)
            refine pt_d (pt_bipush gx133_97 (fun v15 h15 => ?_))
            obtain ⟨pr16, H⟩ := H
            refine pt_d (pt_virt (as := [.int v15]) (r := []) gx133_99 rfl (show zmt[125]? = some zM125 from rfl) rfl rfl rfl rfl (c_125 S13 h15 pr16) (kqI (fun v16 y16 h_16 h16 P16 => ?_)))
            have S16 := P16.1
            have H := H y16 h_16 P16
            show Pt _ _ _ 102 _ [.int v16] _ _
            refine pt_d (pt_if_eq gx133_102 h16 (fun e17 => ?_) (fun e17 => ?_))
            · have H := H.1 e17
              refine pt_d (pt_1 (fun n d => r_aloadn gx133_114 rfl) ?_)
              refine pt_d (pt_bipush gx133_115 (fun v18 h18 => ?_))
              obtain ⟨pr19, H⟩ := H
              refine pt_d (pt_virt (as := [.int v18]) (r := []) gx133_117 rfl (show zmt[125]? = some zM125 from rfl) rfl rfl rfl rfl (c_125 S16 h18 pr19) (kqI (fun v19 y19 h_19 h19 P19 => ?_)))
              have S19 := P19.1
              have H := H y19 h_19 P19
              show Pt _ _ _ 120 _ [.int v19] _ _
              refine pt_d (pt_if_ne gx133_120 h19 (fun e20 => ?_) (fun e20 => ?_))
              · have H := H.1 e20
                refine pt_d (pt_1 (fun n d => r_aloadn gx133_129 rfl) ?_)
                refine pt_d (pt_1 (fun n d => r_iloadn gx133_130 rfl) ?_)
                refine pt_d (pt_iconst gx133_131 (fun v21 h21 => ?_))
                refine pt_d (pt_iadd gx133_132 z1 h21 (fun v22 h22 => ?_))
                obtain ⟨pr23, H⟩ := H
                refine pt_d (pt_virt (as := [.int v22]) (r := []) gx133_133 rfl (show zmt[128]? = some zM128 from rfl) rfl rfl rfl rfl (K128 S19 h22 pr23) (kqI (fun v23 y23 h_23 h23 P23 => ?_)))
                have S23 := P23.1
                have H := H y23 h_23 P23
                show Pt _ _ _ 136 _ [.int v23] _ _
                refine pt_d (pt_1 (fun n d => r_istore (L' := [some (.ref 33), some (.int x1), some (.int v1), some (.int v7), some (.int v23)]) gx133_136 rfl rfl) ?_)
                refine pt_d (pt_1 (fun n d => r_aloadn gx133_138 rfl) ?_)
                refine pt_d (pt_bipush gx133_139 (fun v24 h24 => ?_))
                obtain ⟨pr25, H⟩ := H
                refine pt_d (pt_virt (as := [.int v24]) (r := []) gx133_141 rfl (show zmt[125]? = some zM125 from rfl) rfl rfl rfl rfl (c_125 S23 h24 pr25) (kqI (fun v25 y25 h_25 h25 P25 => ?_)))
                have S25 := P25.1
                have H := H y25 h_25 P25
                show Pt _ _ _ 144 _ [.int v25] _ _
                refine pt_d (pt_if_ne gx133_144 h25 (fun e26 => ?_) (fun e26 => ?_))
                · have H := H.1 e26
                  refine pt_d (pt_1 (fun n d => r_iload gx133_151 rfl) ?_)
                  exact pt_d (pt_iret gx133_153 ⟨_, rfl, by rw [h23]; exact H⟩)
                · have H := H.2 e26
                  refine pt_d (pt_1 (fun n d => r_aloadn gx133_147 rfl) ?_)
                  refine pt_d (pt_virt (as := []) (r := []) gx133_148 rfl (show zmt[126]? = some zM126 from rfl) rfl rfl rfl rfl (c_126 S25) (kqN (fun h_27 P27 => ?_)))
                  have S27 := P27.1
                  have H := H h_27 P27
                  show Pt _ _ _ 151 _ [] _ _
                  refine pt_d (pt_1 (fun n d => r_iload gx133_151 rfl) ?_)
                  exact pt_d (pt_iret gx133_153 ⟨_, rfl, by rw [h23]; exact H⟩)
              · have H := H.2 e20
                refine pt_d (pt_1 (fun n d => r_aloadn gx133_123 rfl) ?_)
                refine pt_d (pt_virt (as := []) (r := []) gx133_124 rfl (show zmt[126]? = some zM126 from rfl) rfl rfl rfl rfl (c_126 S19) (kqN (fun h_28 P28 => ?_)))
                have S28 := P28.1
                have H := H h_28 P28
                show Pt _ _ _ 127 _ [] _ _
                refine pt_d (pt_iconst gx133_127 (fun v29 h29 => ?_))
                exact pt_d (pt_iret gx133_128 ⟨_, rfl, by rw [h29]; exact H⟩)
            · have H := H.2 e17
              refine pt_d (pt_1 (fun n d => r_aloadn gx133_105 rfl) ?_)
              refine pt_d (pt_1 (fun n d => r_iloadn gx133_106 rfl) ?_)
              refine pt_d (pt_iconst gx133_107 (fun v30 h30 => ?_))
              refine pt_d (pt_iadd gx133_108 z1 h30 (fun v31 h31 => ?_))
              obtain ⟨pr32, H⟩ := H
              refine pt_d (pt_virt (as := [.int v31]) (r := []) gx133_109 rfl (show zmt[133]? = some zM133 from rfl) rfl rfl rfl rfl (K133 S16 h31 pr32) (kqI (fun v32 y32 h_32 h32 P32 => ?_)))
              have S32 := P32.1
              have H := H y32 h_32 P32
              show Pt _ _ _ 112 _ [.int v32] _ _
              refine pt_d (pt_ineg gx133_112 h32 (fun v33 h33 => ?_))
              exact pt_d (pt_iret gx133_113 ⟨_, rfl, by rw [h33]; exact H⟩)
          · have H := H.2 e14
            refine pt_d (pt_1 (fun n d => r_aloadn gx133_77 rfl) ?_)
            refine pt_d (pt_1 (fun n d => r_iloadn gx133_78 rfl) ?_)
            refine pt_d (pt_iconst gx133_79 (fun v34 h34 => ?_))
            refine pt_d (pt_iadd gx133_80 z1 h34 (fun v35 h35 => ?_))
            obtain ⟨pr36, H⟩ := H
            refine pt_d (pt_virt (as := [.int v35]) (r := []) gx133_81 rfl (show zmt[133]? = some zM133 from rfl) rfl rfl rfl rfl (K133 S13 h35 pr36) (kqI (fun v36 y36 h_36 h36 P36 => ?_)))
            have S36 := P36.1
            have H := H y36 h_36 P36
            show Pt _ _ _ 84 _ [.int v36] _ _
            refine pt_d (pt_if_ne gx133_84 h36 (fun e37 => ?_) (fun e37 => ?_))
            · have H := H.1 e37
              refine pt_d (pt_iconst gx133_91 (fun v38 h38 => ?_))
              refine pt_d (pt_stat (as := [.int v38]) (r := []) gx133_92 rfl (show zmt[127]? = some zM127 from rfl) rfl rfl rfl rfl (c_127 S36 h38) (kqP (fun v39 h39 => ?_)))
              show Pt _ _ _ 95 _ [.int v39] _ _
              exact pt_d (pt_iret gx133_95 ⟨_, rfl, by rw [h39]; exact H⟩)
            · have H := H.2 e37
              refine pt_d (pt_iconst gx133_87 (fun v40 h40 => ?_))
              refine pt_d (pt_1 (fun n d => r_goto gx133_88) ?_)
              refine pt_d (pt_stat (as := [.int v40]) (r := []) gx133_92 rfl (show zmt[127]? = some zM127 from rfl) rfl rfl rfl rfl (c_127 S36 h40) (kqP (fun v41 h41 => ?_)))
              show Pt _ _ _ 95 _ [.int v41] _ _
              exact pt_d (pt_iret gx133_95 ⟨_, rfl, by rw [h41]; exact H⟩)
        · have H := H.2 e11
          refine pt_d (pt_1 (fun n d => r_aloadn gx133_62 rfl) ?_)
          refine pt_d (pt_virt (as := []) (r := []) gx133_63 rfl (show zmt[126]? = some zM126 from rfl) rfl rfl rfl rfl (c_126 S) (kqN (fun h_42 P42 => ?_)))
          have S42 := P42.1
          have H := H h_42 P42
          show Pt _ _ _ 66 _ [] _ _
          refine pt_d (pt_iconst gx133_66 (fun v43 h43 => ?_))
          exact pt_d (pt_iret gx133_67 ⟨_, rfl, by rw [h43]; exact H⟩)
      · have H := H.2 e9
        refine pt_d (pt_1 (fun n d => r_aloadn gx133_39 rfl) ?_)
        refine pt_d (pt_1 (fun n d => r_dup gx133_40 rfl) ?_)
        refine pt_d (pt_getI (B := 11) gx133_41 S (fun v44 h44 => ?_))
        refine pt_d (pt_iconst gx133_44 (fun v45 h45 => ?_))
        refine pt_d (pt_iadd gx133_45 h44 h45 (fun v46 h46 => ?_))
        refine pt_d (pt_putI (B := 11) gx133_46 S h46 (fun h_47 S47 e47 => ?_))
        refine pt_d (pt_1 (fun n d => r_aloadn gx133_49 rfl) ?_)
        have H := H h_47 S47 (by rw [e47])
        refine pt_d (pt_getD (B := 13) gx133_50 S47 (fun k48 => ?_) (fun q48 k48 => ?_))
        · have H := H.1 k48
          refine pt_d (pt_1 (fun n d => r_iloadn gx133_53 rfl) ?_)
          exact pt_d (pt_ialdN gx133_54)
        · have H := H.2 q48 k48
          refine pt_d (pt_1 (fun n d => r_iloadn gx133_53 rfl) ?_)
          refine pt_d (pt_ialdD gx133_54 h7 (fun v50 p50 h50 => ?_))
          have H := H p50
          exact pt_d (pt_iret gx133_55 ⟨_, rfl, by rw [h50]; exact H⟩)
    · have H := H.2 e5
      refine pt_d (pt_iconst gx133_22 (fun v51 h51 => ?_))
      refine pt_d (pt_1 (fun n d => r_goto gx133_23) ?_)
      refine pt_d (pt_1 (fun n d => r_istoren (L' := [some (.ref 33), some (.int x1), some (.int v1), some (.int v51), none]) gx133_33 rfl rfl) ?_)
      refine pt_d (pt_1 (fun n d => r_iloadn gx133_34 rfl) ?_)
      refine pt_d (pt_iconst gx133_35 (fun v52 h52 => ?_))
      refine pt_d (pt_icmp_eq gx133_36 h51 h52 (fun e53 => ?_) (fun e53 => absurd e53 (by decide)))
      refine pt_d (pt_1 (fun n d => r_iloadn gx133_56 rfl) ?_)
      refine pt_d (pt_bipush gx133_57 (fun v54 h54 => ?_))
      refine pt_d (pt_icmp_lt gx133_59 z1 h54 (fun e55 => ?_) (fun e55 => ?_))
      · have H := H.1 e55
        refine pt_d (pt_1 (fun n d => r_aloadn gx133_68 rfl) ?_)
        refine pt_d (pt_bipush gx133_69 (fun v56 h56 => ?_))
        obtain ⟨pr57, H⟩ := H
        refine pt_d (pt_virt (as := [.int v56]) (r := []) gx133_71 rfl (show zmt[125]? = some zM125 from rfl) rfl rfl rfl rfl (c_125 S h56 pr57) (kqI (fun v57 y57 h_57 h57 P57 => ?_)))
        have S57 := P57.1
        have H := H y57 h_57 P57
        show Pt _ _ _ 74 _ [.int v57] _ _
        refine pt_d (pt_if_eq gx133_74 h57 (fun e58 => ?_) (fun e58 => ?_))
        · have H := H.1 e58
          refine pt_d (pt_1 (fun n d => r_aloadn gx133_96 rfl) ?_)
          refine pt_d (pt_bipush gx133_97 (fun v59 h59 => ?_))
          obtain ⟨pr60, H⟩ := H
          refine pt_d (pt_virt (as := [.int v59]) (r := []) gx133_99 rfl (show zmt[125]? = some zM125 from rfl) rfl rfl rfl rfl (c_125 S57 h59 pr60) (kqI (fun v60 y60 h_60 h60 P60 => ?_)))
          have S60 := P60.1
          have H := H y60 h_60 P60
          show Pt _ _ _ 102 _ [.int v60] _ _
          refine pt_d (pt_if_eq gx133_102 h60 (fun e61 => ?_) (fun e61 => ?_))
          · have H := H.1 e61
            refine pt_d (pt_1 (fun n d => r_aloadn gx133_114 rfl) ?_)
            refine pt_d (pt_bipush gx133_115 (fun v62 h62 => ?_))
            obtain ⟨pr63, H⟩ := H
            refine pt_d (pt_virt (as := [.int v62]) (r := []) gx133_117 rfl (show zmt[125]? = some zM125 from rfl) rfl rfl rfl rfl (c_125 S60 h62 pr63) (kqI (fun v63 y63 h_63 h63 P63 => ?_)))
            have S63 := P63.1
            have H := H y63 h_63 P63
            show Pt _ _ _ 120 _ [.int v63] _ _
            refine pt_d (pt_if_ne gx133_120 h63 (fun e64 => ?_) (fun e64 => ?_))
            · have H := H.1 e64
              refine pt_d (pt_1 (fun n d => r_aloadn gx133_129 rfl) ?_)
              refine pt_d (pt_1 (fun n d => r_iloadn gx133_130 rfl) ?_)
              refine pt_d (pt_iconst gx133_131 (fun v65 h65 => ?_))
              refine pt_d (pt_iadd gx133_132 z1 h65 (fun v66 h66 => ?_))
              obtain ⟨pr67, H⟩ := H
              refine pt_d (pt_virt (as := [.int v66]) (r := []) gx133_133 rfl (show zmt[128]? = some zM128 from rfl) rfl rfl rfl rfl (K128 S63 h66 pr67) (kqI (fun v67 y67 h_67 h67 P67 => ?_)))
              have S67 := P67.1
              have H := H y67 h_67 P67
              show Pt _ _ _ 136 _ [.int v67] _ _
              refine pt_d (pt_1 (fun n d => r_istore (L' := [some (.ref 33), some (.int x1), some (.int v1), some (.int v51), some (.int v67)]) gx133_136 rfl rfl) ?_)
              refine pt_d (pt_1 (fun n d => r_aloadn gx133_138 rfl) ?_)
              refine pt_d (pt_bipush gx133_139 (fun v68 h68 => ?_))
              obtain ⟨pr69, H⟩ := H
              refine pt_d (pt_virt (as := [.int v68]) (r := []) gx133_141 rfl (show zmt[125]? = some zM125 from rfl) rfl rfl rfl rfl (c_125 S67 h68 pr69) (kqI (fun v69 y69 h_69 h69 P69 => ?_)))
              have S69 := P69.1
              have H := H y69 h_69 P69
              show Pt _ _ _ 144 _ [.int v69] _ _
              refine pt_d (pt_if_ne gx133_144 h69 (fun e70 => ?_) (fun e70 => ?_))
              · have H := H.1 e70
                refine pt_d (pt_1 (fun n d => r_iload gx133_151 rfl) ?_)
                exact pt_d (pt_iret gx133_153 ⟨_, rfl, by rw [h67]; exact H⟩)
              · have H := H.2 e70
                refine pt_d (pt_1 (fun n d => r_aloadn gx133_147 rfl) ?_)
                refine pt_d (pt_virt (as := []) (r := []) gx133_148 rfl (show zmt[126]? = some zM126 from rfl) rfl rfl rfl rfl (c_126 S69) (kqN (fun h_71 P71 => ?_)))
                have S71 := P71.1
                have H := H h_71 P71
                show Pt _ _ _ 151 _ [] _ _
                refine pt_d (pt_1 (fun n d => r_iload gx133_151 rfl) ?_)
                exact pt_d (pt_iret gx133_153 ⟨_, rfl, by rw [h67]; exact H⟩)
            · have H := H.2 e64
              refine pt_d (pt_1 (fun n d => r_aloadn gx133_123 rfl) ?_)
              refine pt_d (pt_virt (as := []) (r := []) gx133_124 rfl (show zmt[126]? = some zM126 from rfl) rfl rfl rfl rfl (c_126 S63) (kqN (fun h_72 P72 => ?_)))
              have S72 := P72.1
              have H := H h_72 P72
              show Pt _ _ _ 127 _ [] _ _
              refine pt_d (pt_iconst gx133_127 (fun v73 h73 => ?_))
              exact pt_d (pt_iret gx133_128 ⟨_, rfl, by rw [h73]; exact H⟩)
          · have H := H.2 e61
            refine pt_d (pt_1 (fun n d => r_aloadn gx133_105 rfl) ?_)
            refine pt_d (pt_1 (fun n d => r_iloadn gx133_106 rfl) ?_)
            refine pt_d (pt_iconst gx133_107 (fun v74 h74 => ?_))
            refine pt_d (pt_iadd gx133_108 z1 h74 (fun v75 h75 => ?_))
            obtain ⟨pr76, H⟩ := H
            refine pt_d (pt_virt (as := [.int v75]) (r := []) gx133_109 rfl (show zmt[133]? = some zM133 from rfl) rfl rfl rfl rfl (K133 S60 h75 pr76) (kqI (fun v76 y76 h_76 h76 P76 => ?_)))
            have S76 := P76.1
            have H := H y76 h_76 P76
            show Pt _ _ _ 112 _ [.int v76] _ _
            refine pt_d (pt_ineg gx133_112 h76 (fun v77 h77 => ?_))
            exact pt_d (pt_iret gx133_113 ⟨_, rfl, by rw [h77]; exact H⟩)
        · have H := H.2 e58
          refine pt_d (pt_1 (fun n d => r_aloadn gx133_77 rfl) ?_)
          refine pt_d (pt_1 (fun n d => r_iloadn gx133_78 rfl) ?_)
          refine pt_d (pt_iconst gx133_79 (fun v78 h78 => ?_))
          refine pt_d (pt_iadd gx133_80 z1 h78 (fun v79 h79 => ?_))
          obtain ⟨pr80, H⟩ := H
          refine pt_d (pt_virt (as := [.int v79]) (r := []) gx133_81 rfl (show zmt[133]? = some zM133 from rfl) rfl rfl rfl rfl (K133 S57 h79 pr80) (kqI (fun v80 y80 h_80 h80 P80 => ?_)))
          have S80 := P80.1
          have H := H y80 h_80 P80
          show Pt _ _ _ 84 _ [.int v80] _ _
          refine pt_d (pt_if_ne gx133_84 h80 (fun e81 => ?_) (fun e81 => ?_))
          · have H := H.1 e81
            refine pt_d (pt_iconst gx133_91 (fun v82 h82 => ?_))
            refine pt_d (pt_stat (as := [.int v82]) (r := []) gx133_92 rfl (show zmt[127]? = some zM127 from rfl) rfl rfl rfl rfl (c_127 S80 h82) (kqP (fun v83 h83 => ?_)))
            show Pt _ _ _ 95 _ [.int v83] _ _
            exact pt_d (pt_iret gx133_95 ⟨_, rfl, by rw [h83]; exact H⟩)
          · have H := H.2 e81
            refine pt_d (pt_iconst gx133_87 (fun v84 h84 => ?_))
            refine pt_d (pt_1 (fun n d => r_goto gx133_88) ?_)
            refine pt_d (pt_stat (as := [.int v84]) (r := []) gx133_92 rfl (show zmt[127]? = some zM127 from rfl) rfl rfl rfl rfl (c_127 S80 h84) (kqP (fun v85 h85 => ?_)))
            show Pt _ _ _ 95 _ [.int v85] _ _
            exact pt_d (pt_iret gx133_95 ⟨_, rfl, by rw [h85]; exact H⟩)
      · have H := H.2 e55
        refine pt_d (pt_1 (fun n d => r_aloadn gx133_62 rfl) ?_)
        refine pt_d (pt_virt (as := []) (r := []) gx133_63 rfl (show zmt[126]? = some zM126 from rfl) rfl rfl rfl rfl (c_126 S) (kqN (fun h_86 P86 => ?_)))
        have S86 := P86.1
        have H := H h_86 P86
        show Pt _ _ _ 66 _ [] _ _
        refine pt_d (pt_iconst gx133_66 (fun v87 h87 => ?_))
        exact pt_d (pt_iret gx133_67 ⟨_, rfl, by rw [h87]; exact H⟩)
  · have H := H.2 e3
    refine pt_d (pt_1 (fun n d => r_aloadn gx133_12 rfl) ?_)
    obtain ⟨pr88, H⟩ := H
    refine pt_d (pt_virt (as := []) (r := []) gx133_13 rfl (show zmt[135]? = some zM135 from rfl) rfl rfl rfl rfl (c_135v S pr88) (kqI (fun v88 y88 h_88 h88 P88 => ?_)))
    have S88 := P88.1
    have H := H y88 h_88 P88
    show Pt _ _ _ 16 _ [.int v88] _ _
    exact pt_d (pt_iret gx133_16 ⟨_, rfl, by rw [h88]; exact H⟩)
theorem ev_133 {n : Nat} {X : aX} (C : ct133 (n + 1) X) (K0 : vt133 n X) (K8 : vt128 n X) : vt133 (n + 1) X := by
  intro h x1 a1 S z1 hp
  refine pt_q (pt_and (C S z1 hp.1) (show Pt (n + 1) X zM133 0 [some (.ref 33), some (.int x1), none, none, none] [] h (qI (fun r h' => vRes 0 a1 (vw h) r (vw h'))) from ?_)) ?_
  · obtain ⟨⟨I, e12, o0, o1⟩, n13⟩ := hp
    have bJ := I.1
    have bJ2 := I.2.1
    have wo : w32 (a1 + 1) = a1 + 1 := w32_id (by omega) (by omega)
    have dn : ¬ (48 ≤ cSg (vw h) ∧ cSg (vw h) ≤ 57) → isD (cTx (vw h) (vw h 33 11)) = false := by
      intro z
      cases w : isD (cTx (vw h) (vw h 33 11)) with
      | false => rfl
      | true => exact absurd ((cSg_d I e12).mpr w) z
    have rest : isD (cTx (vw h) (vw h 33 11)) = false → nmB (cTx (vw h) (vw h 33 11)) = false → ((a1 < 8 → ((tIn (vw h) ∧ (0 : Int) ≤ 33 ∧ (33 : Int) ≤ 127) ∧ ∀ (y13 : Int) (h_13 : aH), (wS h_13 ∧ R125 (vw h) 33 y13 (vw h_13)) → ((y13 = 0 → ((tIn (vw h_13) ∧ (0 : Int) ≤ 45 ∧ (45 : Int) ≤ 127) ∧ ∀ (y16 : Int) (h_16 : aH), (wS h_16 ∧ R125 (vw h_13) 45 y16 (vw h_16)) → ((y16 = 0 → ((tIn (vw h_16) ∧ (0 : Int) ≤ 40 ∧ (40 : Int) ≤ 127) ∧ ∀ (y19 : Int) (h_19 : aH), (wS h_19 ∧ R125 (vw h_16) 40 y19 (vw h_19)) → ((y19 ≠ 0 → ((cpre (vw h_19) (w32 (a1 + 1)) ∧ vw h_19 33 13 = ((43 : Nat) : Int)) ∧ ∀ (y23 : Int) (h_23 : aH), (wS h_23 ∧ cRes 8 (w32 (a1 + 1)) (vw h_19) (vw h_23) ∧ vRes 8 (w32 (a1 + 1)) (vw h_19) y23 (vw h_23)) → ((tIn (vw h_23) ∧ (0 : Int) ≤ 41 ∧ (41 : Int) ≤ 127) ∧ ∀ (y25 : Int) (h_25 : aH), (wS h_25 ∧ R125 (vw h_23) 41 y25 (vw h_25)) → ((y25 ≠ 0 → vRes 0 a1 (vw h) y23 (vw h_25)) ∧ (y25 = 0 → ∀ (h_27 : aH), (wS h_27 ∧ R126 (vw h_25) (vw h_27)) → vRes 0 a1 (vw h) y23 (vw h_27)))))) ∧ (y19 = 0 → ∀ (h_28 : aH), (wS h_28 ∧ R126 (vw h_19) (vw h_28)) → vRes 0 a1 (vw h) 0 (vw h_28))))) ∧ (y16 ≠ 0 → ((cpre (vw h_16) (w32 (a1 + 1)) ∧ vw h_16 33 13 = ((43 : Nat) : Int)) ∧ ∀ (y32 : Int) (h_32 : aH), (wS h_32 ∧ cRes 0 (w32 (a1 + 1)) (vw h_16) (vw h_32) ∧ vRes 0 (w32 (a1 + 1)) (vw h_16) y32 (vw h_32)) → vRes 0 a1 (vw h) (w32 (-y32)) (vw h_32)))))) ∧ (y13 ≠ 0 → ((cpre (vw h_13) (w32 (a1 + 1)) ∧ vw h_13 33 13 = ((43 : Nat) : Int)) ∧ ∀ (y36 : Int) (h_36 : aH), (wS h_36 ∧ cRes 0 (w32 (a1 + 1)) (vw h_13) (vw h_36) ∧ vRes 0 (w32 (a1 + 1)) (vw h_13) y36 (vw h_36)) → ((y36 ≠ 0 → vRes 0 a1 (vw h) (if (0 : Int) = 0 then 0 else 1) (vw h_36)) ∧ (y36 = 0 → vRes 0 a1 (vw h) (if (1 : Int) = 0 then 0 else 1) (vw h_36)))))))) ∧ (8 ≤ a1 → ∀ (h_42 : aH), (wS h_42 ∧ R126 (vw h) (vw h_42)) → vRes 0 a1 (vw h) 0 (vw h_42))) := by
      intro nd nn
      have d0 : dgEnd (cTx (vw h)) 6 (vw h 33 11) = vw h 33 11 := by
        show (bif isD (cTx (vw h) (vw h 33 11)) then dgEnd (cTx (vw h)) 5 (vw h 33 11 + 1) else vw h 33 11) = _
        rw [nd]
        rfl
      refine ⟨fun lt => ⟨⟨I, by decide, by decide⟩, fun y13 h13 k13' => ⟨fun e13 => ⟨⟨by rw [(tk_0 k13'.2 e13).1]; exact I, by decide, by decide⟩, fun y16 h16 k16 => ?_⟩, fun e13 => ?_⟩⟩, fun ge h42 k42 => v_no (fun q L d => ?_)⟩
      · obtain ⟨v13, n13'⟩ := tk_0 k13'.2 e13
        have r16 : R125 (vw h) 45 y16 (vw h16) := by rw [← v13]; exact k16.2
        refine ⟨fun e16 => ⟨⟨by rw [(tk_0 r16 e16).1]; exact I, by decide, by decide⟩, fun y19 h19 k19 => ?_⟩, fun e16 => ?_⟩
        · obtain ⟨v16, n16⟩ := tk_0 r16 e16
          have r19 : R125 (vw h) 40 y19 (vw h19) := by rw [← v16]; exact k19.2
          refine ⟨fun e19 => ?_, fun e19 h28 k28 => v_no (fun q L d => ?_)⟩
          · obtain ⟨I19, f12, f11⟩ := tk_i I r19 e19
            refine ⟨⟨⟨I19, f12, by rw [wo]; omega, by rw [wo]; omega⟩, (k13 r19).trans n13⟩, fun y23 h23 k23 => ?_⟩
            obtain ⟨I23, j23⟩ := cR_i I19 k23.2.1
            exact ⟨⟨I23, by decide, by decide⟩, fun y25 h25 k25 => ⟨fun e25 => (v_br wo r19 e19 k23.2.2).1 _ k25.2 e25, fun e25 h27 k27 => (v_br wo r19 e19 k23.2.2).2 _ _ k25.2 e25⟩⟩
          · obtain ⟨v19, n19⟩ := tk_0 r19 e19
            rcases ko_x d with ⟨a, -⟩ | ⟨-, n, w', L1, a, -⟩ | ⟨-, n, a, -⟩ | ⟨-, -, a, -⟩
            · rw [nn] at a
              cases a
            · rcases a with ⟨a, -⟩ | ⟨a, -⟩
              · exact n13' e12 a
              · exact n16 e12 a
            · exact n19 e12 a
            · exact a (Or.inl d0)
        · obtain ⟨I4, f12, f11⟩ := tk_i I r16 e16
          exact ⟨⟨⟨I4, f12, by rw [wo]; omega, by rw [wo]; omega⟩, (k13 r16).trans n13⟩, fun y32 h32 k32 => v_un (Or.inr ⟨rfl, rfl⟩) wo r16 e16 k32.2.2 (fun N st => rfl)⟩
      · obtain ⟨I4, f12, f11⟩ := tk_i I k13'.2 e13
        refine ⟨⟨⟨I4, f12, by rw [wo]; omega, by rw [wo]; omega⟩, (k13 k13'.2).trans n13⟩, fun y36 h36 k36 => ⟨fun z => v_un (Or.inl ⟨rfl, rfl⟩) wo k13'.2 e13 k36.2.2 (fun N st => ?_), fun z => v_un (Or.inl ⟨rfl, rfl⟩) wo k13'.2 e13 k36.2.2 (fun N st => ?_)⟩⟩
        · show bI (y36 = 0) :: st = _
          rw [bI_f z]
          rfl
        · show bI (y36 = 0) :: st = _
          rw [bI_t z]
          rfl
      · rcases ko_x d with ⟨a, -⟩ | ⟨-, n, -⟩ | ⟨-, n, -⟩ | ⟨-, -, a, -⟩
        · rw [nn] at a
          cases a
        · omega
        · omega
        · exact a (Or.inl d0)
    obtain ⟨m1, m2⟩ := cSg_m I e12
    refine g133_0 S z1 K0 K8 ⟨fun nd => ⟨fun ne => ⟨fun ix => rest (dn nd) ((m2 ne).mp ix), fun ix g S2 eg => ⟨fun _ => trivial, fun q48 eq _ => ?_⟩⟩, fun eq => rest (dn nd) (m1 eq)⟩, fun dd => ⟨⟨I, e12⟩, fun y h88 k => ?_⟩⟩
    · have nm : nmB (cTx (vw h) (vw h 33 11)) = true := by
        cases w : nmB (cTx (vw h) (vw h 33 11)) with
        | true => rfl
        | false => exact absurd ((m2 ne).mpr w) ix
      have lt : vw h 33 11 < vw h 33 10 := cT_lt I (fun w => by rw [w] at nm; cases nm)
      rw [w32_id (by omega) (by omega)] at eg
      have rg := nmB_r nm
      have q43 : q48 = 43 := by
        rw [eg, up_j (by decide), n13] at eq
        omega
      have ei : iIx (bChr (cSg (vw h))) = nmV (cTx (vw h) (vw h 33 11)) := by
        rw [(cSg_v I e12 rg.1).1]
        have k := nmI ⟨(cTx (vw h) (vw h 33 11)).toNat, by omega⟩
        rw [show (((⟨(cTx (vw h) (vw h 33 11)).toNat, by omega⟩ : Fin 128).val : Nat) : Int) = cTx (vw h) (vw h 33 11) by show (((cTx (vw h) (vw h 33 11)).toNat : Nat) : Int) = _; omega] at k
        exact k nm
      intro q L d
      rcases ko_x d with ⟨-, rfl, rfl⟩ | ⟨a, -⟩ | ⟨a, -⟩ | ⟨a, -⟩
      · refine ⟨eg, fun st => ?_⟩
        show vw h 43 (nmV (cTx (vw h) (vw h 33 11))) :: st = _
        rw [q43, ei, eg, up_c (by decide)]
      · rw [nm] at a
        cases a
      · rw [nm] at a
        cases a
      · rw [nm] at a
        cases a
    · have d1 := (cSg_d I e12).mp dd
      have pos : 48 ≤ cTx (vw h) (vw h 33 11) ∧ cTx (vw h) (vw h 33 11) ≤ 57 := of_decide_eq_true d1
      intro q L d
      rcases ko_x d with ⟨a, -⟩ | ⟨-, n, w', L1, a, -⟩ | ⟨-, n, a, -⟩ | ⟨-, -, -, rfl, rfl⟩
      · exfalso
        unfold nmB at a
        simp only [Bool.or_eq_true, beq_iff_eq] at a
        omega
      · omega
      · omega
      · refine ⟨k.2.1, fun st => ?_⟩
        rw [k.2.2]
        rfl
  · rintro v h' ⟨⟨x, rfl, p1, p2⟩, ⟨x', ev, p3⟩⟩
    exact ⟨x', ev, p1, p2, p3⟩
theorem v_gram (X : aX) : ∀ n : Nat, vt133 n X ∧ (vt132 n X ∧ vl132 n X) ∧ (vt131 n X ∧ vl131 n X) ∧ vt130 n X ∧ (vt129 n X ∧ vl129 n X) ∧ vt128 n X ∧ vl128 n X := by
  intro n
  induction n with
  | zero => exact ⟨fun _ _ _ => pt_z, ⟨fun _ _ _ => pt_z, fun _ _ _ _ _ _ _ _ _ _ => pt_z⟩, ⟨fun _ _ _ => pt_z, fun _ _ _ _ _ _ _ _ _ _ => pt_z⟩, fun _ _ _ => pt_z, ⟨fun _ _ _ => pt_z, fun _ _ _ _ _ _ _ _ _ _ => pt_z⟩, fun _ _ _ => pt_z, fun _ _ _ _ _ _ _ _ _ _ => pt_z⟩
  | succ n ih =>
    obtain ⟨i1, ⟨i2, i3⟩, ⟨i4, i5⟩, i6, ⟨i7, i8⟩, i9, i10⟩ := ih
    obtain ⟨c1, ⟨c2, -⟩, ⟨c4, -⟩, c6, ⟨c7, -⟩, c9, -⟩ := c_gram X (n + 1)
    exact ⟨ev_133 c1 i1 i9, ⟨ev_132 c2 i1 i3, fv_132 i1 i3⟩, ⟨ev_131 c4 i2 i5, fv_131 i2 i5⟩, ev_130 c6 i4, ⟨ev_129 c7 i6 i8, fv_129 i6 i8⟩, ev_128 c9 i7 i10, fv_128 i7 i10⟩
end
section
-- ===== the reference lays a text out =====
-- a code stands from a place on
def cAt (V : vS) : Int → List (Int × Int) → Prop
  | _, [] => True
  | b, (w, x) :: L => (V 122 b = w ∧ V 123 b = x) ∧ cAt V (b + 1) L
theorem cAt_a {V : vS} : ∀ (L M : List (Int × Int)) (b : Int), cAt V b (L ++ M) ↔ cAt V b L ∧ cAt V (b + (L.length : Int)) M
  | [], M, b => by
    show cAt V b M ↔ True ∧ cAt V (b + ((0 : Nat) : Int)) M
    rw [Int.natCast_zero, Int.add_zero, true_and]
  | (w, x) :: L, M, b => by
    show ((V 122 b = w ∧ V 123 b = x) ∧ cAt V (b + 1) (L ++ M)) ↔ ((V 122 b = w ∧ V 123 b = x) ∧ cAt V (b + 1) L) ∧ cAt V (b + ((L.length + 1 : Nat) : Int)) M
    rw [cAt_a L M (b + 1), show b + 1 + (L.length : Int) = b + ((L.length + 1 : Nat) : Int) by omega]
    exact ⟨fun ⟨x, y, z⟩ => ⟨⟨x, y⟩, z⟩, fun ⟨⟨x, y⟩, z⟩ => ⟨x, y, z⟩⟩
theorem cAt_k {V W : vS} : ∀ (L : List (Int × Int)) (b : Int), (∀ j, b ≤ j → j < b + (L.length : Int) → W 122 j = V 122 j ∧ W 123 j = V 123 j) → cAt V b L → cAt W b L
  | [], _, _, _ => trivial
  | (w, x) :: L, b, h, c => by
    have e : (((w, x) :: L).length : Int) = (L.length : Int) + 1 := by rw [List.length_cons]; omega
    rw [e] at h
    have h0 := h b (Int.le_refl _) (by omega)
    exact ⟨⟨h0.1.trans c.1.1, h0.2.trans c.1.2⟩, cAt_k L (b + 1) (fun j u v => h j (by omega) (by omega)) c.2⟩
-- a step of code is laid
def lAt (V : vS) : Int := w32 (w32 (170 * V 72 67) + V 72 68)
def RLay (V : vS) (w x : Int) (W : vS) : Prop := W = up (up (up V 122 (lAt V) w) 123 (lAt V) x) 72 68 (w32 (V 72 68 + 1))
theorem c_253v {n : Nat} {X : aX} {h : aH} {x1 x2 : Int32} {a1 a2 : Int} (S : wS h) (z1 : x1.toInt = a1) (z2 : x2.toInt = a2) : Pt n X zM253 0 [some (.ref 72), some (.int x1), some (.int x2)] [] h (qN (fun h' => wS h' ∧ RLay (vw h) a1 a2 (vw h'))) :=
  pt_d (d253_0 S z1 z2 (fun _ _ g S2 eg => ⟨S2, eg⟩))
theorem lay_l {V W : vS} {w x : Int} (l : RLay V w x W) : lfr V W := fun c j h1 h2 h3 => by
  rw [l]
  by_cases z : c = 72
  · subst z
    rw [up_j (h3 rfl), up_c h2, up_c h1]
  · rw [up_c z, up_c h2, up_c h1]
def kpre (V : vS) : Prop := (0 ≤ V 72 67 ∧ V 72 67 ≤ 15) ∧ 0 ≤ V 72 68 ∧ V 72 68 ≤ V 72 64
theorem lAt_e {V : vS} (k : kpre V) (h : V 72 64 ≤ 160) : lAt V = 170 * V 72 67 + V 72 68 := by
  unfold lAt
  rw [w32_id (z := 170 * V 72 67) (by have := k.1; omega) (by have := k.1; omega), w32_id (by have := k.1; have := k.2; omega) (by have := k.1; have := k.2; omega)]
-- what stays: the code laid ahead of it, the lines, the row; what is laid is no more than what is read (and s)
def kFs (s : Int) (V V' : vS) : Prop := (∀ c j, (c = 119 ∨ c = 120 ∨ c = 121 ∨ (c = 72 ∧ j = 67)) → V' c j = V c j) ∧ (∀ j, j < 170 * V 72 67 + V 72 68 → V' 122 j = V 122 j ∧ V' 123 j = V 123 j) ∧ V 72 68 ≤ V' 72 68 ∧ V' 72 68 - V 72 68 ≤ V' 72 64 - V 72 64 + s
section KF
variable {s s1 : Int} {V V1 V2 V' W : vS}
theorem kFs_67 (F : kFs s V V') : V' 72 67 = V 72 67 := F.1 72 67 (Or.inr (Or.inr (Or.inr ⟨rfl, rfl⟩)))
theorem kFs_r : kFs 0 V V := ⟨fun _ _ _ => rfl, fun _ _ => ⟨rfl, rfl⟩, Int.le_refl _, by omega⟩
theorem kFs_t (a : kFs s V V1) (b : kFs s1 V1 V2) : kFs (s + s1) V V2 := by
  have e := kFs_67 a
  have a3 := a.2.2.1
  have a4 := a.2.2.2
  have b3 := b.2.2.1
  have b4 := b.2.2.2
  refine ⟨fun c j z => (b.1 c j z).trans (a.1 c j z), fun j u => ?_, by omega, by omega⟩
  have x := b.2.1 j (by omega)
  have y := a.2.1 j u
  exact ⟨x.1.trans y.1, x.2.trans y.2⟩
theorem kFs_s (e : s = s1) (a : kFs s V V') : kFs s1 V V' := by rw [← e]; exact a
theorem kFs_i (h : ∀ c j, (c = 119 ∨ c = 120 ∨ c = 121 ∨ c = 122 ∨ c = 123 ∨ (c = 72 ∧ (j = 67 ∨ j = 68))) → V' c j = V c j) (e : V 72 64 = V' 72 64 + s) : kFs s V V' := by
  have e8 := h 72 68 (by omega)
  exact ⟨fun c j z => h c j (by omega), fun j _ => ⟨h 122 j (by omega), h 123 j (by omega)⟩, by omega, by omega⟩
theorem kFs_j (h : ∀ c j, (c = 119 ∨ c = 120 ∨ c = 121 ∨ c = 122 ∨ c = 123 ∨ (c = 72 ∧ (j = 67 ∨ j = 68))) → V2 c j = V1 c j) (e : V2 72 64 = V1 72 64) (a : kFs s V V1) : kFs s V V2 := kFs_s (by omega) (kFs_t a (kFs_i (s := 0) h (by omega)))
theorem kF_p (hs : s ≤ 0) (K : kpre V) (F : kFs s V V') : kpre V' := by
  have e := kFs_67 F
  have k := K.2
  have f3 := F.2.2.1
  have f4 := F.2.2.2
  exact ⟨by rw [e]; exact K.1, by omega, by omega⟩
theorem up_fr {c : Nat} {i v : Int} (h : c = 72 ∧ (i = 64 ∨ i = 65 ∨ i = 66)) : ∀ c' j, (c' = 119 ∨ c' = 120 ∨ c' = 121 ∨ c' = 122 ∨ c' = 123 ∨ (c' = 72 ∧ (j = 67 ∨ j = 68))) → up V c i v c' j = V c' j := fun c' j z => by
  by_cases e : c' = 72
  · subst e
    obtain ⟨rfl, h⟩ := h
    exact up_j (by omega)
  · exact up_c (by omega)
theorem lay_F {w x : Int} (K : kpre V) (b : V 72 64 ≤ 160) (l : RLay V w x W) : kFs 1 V W ∧ W 72 68 = V 72 68 + 1 ∧ (W 122 (170 * V 72 67 + V 72 68) = w ∧ W 123 (170 * V 72 67 + V 72 68) = x) ∧ W 72 64 = V 72 64 ∧ W 72 65 = V 72 65 := by
  have la := lAt_e K b
  have k := K.2
  have e64 : W 72 64 = V 72 64 := lfr_e (lay_l l) (by decide)
  have l68 : W 72 68 = V 72 68 + 1 := by
    rw [l, up_s, w32_id (by omega) (by omega)]
  have s122 : ∀ j, W 122 j = if j = lAt V then w else V 122 j := fun j => by rw [l, up_c (by decide), up_c (by decide), up_p]
  have s123 : ∀ j, W 123 j = if j = lAt V then x else V 123 j := fun j => by rw [l, up_c (by decide), up_p, up_c (by decide)]
  refine ⟨⟨fun c j z => lay_l l c j (by omega) (by omega) (fun _ => by omega), fun j u => ?_, by omega, by omega⟩, l68, ⟨?_, ?_⟩, e64, lfr_e (lay_l l) (by decide)⟩
  · rw [s122, s123, if_neg (by omega), if_neg (by omega)]
    exact ⟨rfl, rfl⟩
  · rw [s122, if_pos la.symm]
  · rw [s123, if_pos la.symm]
end KF
def kOk (t : Nat) (o p : Int) (V V' : vS) : Prop := ∃ q L, Cd (mT V) t o p q L ∧ V' 72 64 = q ∧ V' 72 68 = V 72 68 + (L.length : Int) ∧ cAt V' (170 * V 72 67 + V 72 68) L
def kRes (t : Nat) (V V' : vS) : Prop := kFs 0 V V' ∧ (V' 72 65 < 0 → kOk t (V 72 66) (V 72 64) V V')
def kLo (t : Nat) (V V' : vS) : Prop := kFs 0 V V' ∧ (V 72 65 < 0 → V' 72 65 < 0 → kOk t (V 72 66) (V 72 64) V V')
end
section
-- ===== the reference lays a text out =====
theorem mRes_q {t : Nat} {V V' : vS} (c : mRes t V V') (h : V 72 54 ≤ 160) : V' 72 64 ≤ 160 := by
  obtain ⟨F1, q, f, p1, e1, e2, e3, b⟩ := c
  omega
theorem k_seq {t t1 t2 : Nat} (S : seqC t t1 t2) {V V1 V' : vS} (c1 : mRes t1 V V1) (k1 : kRes t1 V V1) (c2 : mLo t2 V1 V') (k2 : kLo t2 V1 V') : kRes t V V' := by
  obtain ⟨F1, q, f, p1, e1, e2, e3, b⟩ := c1
  refine ⟨kFs_s (by omega) (kFs_t k1.1 k2.1), fun n => ?_⟩
  have w : V1 72 65 < 0 := by
    by_cases w : V1 72 65 < 0
    · exact w
    · have := (c2.2 (by omega)).2.2
      omega
  obtain ⟨q1, L1, d1, a1, a2, a3⟩ := k1.2 w
  obtain ⟨q2, L2, d2, b1, b2, b3⟩ := k2.2 w n
  have r67 : V1 72 67 = V 72 67 := kFs_67 k1.1
  rw [mfr_T F1, e3 (by omega), a1] at d2
  rw [r67, a2] at b3
  refine ⟨q2, L1 ++ L2, kq_n S d1 d2, b1, ?_, ?_⟩
  · rw [b2, a2, List.length_append]
    omega
  · rw [cAt_a]
    refine ⟨cAt_k L1 _ (fun j u v => k2.1.2.1 j (by omega)) a3, ?_⟩
    rw [show 170 * V 72 67 + V 72 68 + (L1.length : Int) = 170 * V 72 67 + (V 72 68 + (L1.length : Int)) by omega]
    exact b3
theorem k_out {t t1 : Nat} (S : lopC t t1) {V : vS} (h : V 72 65 < 0 → opB t (mT V (V 72 64)) = false) : kLo t V V :=
  ⟨kFs_r, fun e _ => ⟨_, [], kl_e S (h e), rfl, by show V 72 68 = V 72 68 + ((0 : Nat) : Int); omega, trivial⟩⟩
-- a part behind a sign, and the sign's step
theorem k_lay {t1 : Nat} {V V4 V1 V2 : vS} {c x o : Int} (K : kpre V) (F4 : kFs (-1) V V4) (e64 : V4 72 64 = V 72 64 + 1) (eT : mT V4 = mT V) (e68 : V4 72 68 = V 72 68) (cb : V1 72 64 ≤ 160) (k1F : kFs 0 V4 V1) (k1 : V1 72 65 < 0 → kOk t1 o (V4 72 64) V4 V1) (l : RLay V1 c x V2) : kFs 0 V V2 ∧ (V2 72 65 < 0 → ∃ q L, Cd (mT V) t1 o (V 72 64 + 1) q L ∧ V2 72 64 = q ∧ V2 72 68 = V 72 68 + (L.length : Int) + 1 ∧ cAt V2 (170 * V 72 67 + V 72 68) (L ++ [(c, x)])) := by
  have K1 : kpre V1 := kF_p (Int.le_refl _) (kF_p (by decide) K F4) k1F
  obtain ⟨lF, l68, lc, l64, l65⟩ := lay_F K1 cb l
  refine ⟨kFs_s (by omega) (kFs_t (kFs_t F4 k1F) lF), fun n => ?_⟩
  obtain ⟨q, L, d, a1, a2, a3⟩ := k1 (by omega)
  have r4 := kFs_67 F4
  have r1 := kFs_67 k1F
  rw [eT, e64] at d
  rw [e68] at a2
  rw [e68, r4] at a3
  refine ⟨q, L, d, l64.trans a1, by rw [l68, a2], ?_⟩
  rw [cAt_a]
  refine ⟨cAt_k L _ (fun j u v => lF.2.1 j (by omega)) a3, ?_, trivial⟩
  rw [show 170 * V 72 67 + V 72 68 + (L.length : Int) = 170 * V1 72 67 + V1 72 68 by omega]
  exact lc
theorem k_gl {t1 : Nat} {V V4 V1 V2 : vS} {c : Int} (H : mlp V) (K : kpre V) (hf : V 72 65 < 0) (c0 : 0 ≤ c) (hc : mL V = c) (e4 : V4 = up V 72 64 (w32 (V 72 64 + 1))) (c1 : mRes t1 V4 V1) (k1 : kRes t1 V4 V1) (l : RLay V1 c 0 V2) : kFs 0 V V2 ∧ (V2 72 65 < 0 → ∃ q L, Cd (mT V) t1 (V 72 66) (V 72 64 + 1) q L ∧ V2 72 64 = q ∧ V2 72 68 = V 72 68 + (L.length : Int) + 1 ∧ cAt V2 (170 * V 72 67 + V 72 68) (L ++ [(c, 0)])) := by
  obtain ⟨h1, h2, h3, h4, h5, h6, h7, h8⟩ := m_here H hf c0 hc e4
  have F4 : kFs (-1) V V4 := by rw [h3]; exact kFs_i (up_fr (by omega)) (by rw [up_s]; omega)
  exact k_lay K F4 h4 h6 (by rw [h3]; exact up_j (by decide)) (mRes_q c1 (by rw [h7]; exact H.2.2.2)) k1.1 (fun w => by rw [← h5]; exact k1.2 w) l
theorem k_step {t t1 : Nat} (S : lopC t t1) {V V4 V1 V2 V' : vS} {c : Int} (H : mlp V) (K : kpre V) (hf : V 72 65 < 0) (c0 : 0 ≤ c) (hc : mL V = c) (ho : opB t c = true) (e4 : V4 = up V 72 64 (w32 (V 72 64 + 1))) (c1 : mRes t1 V4 V1) (k1 : kRes t1 V4 V1) (l : RLay V1 c 0 V2) (c2 : mLo t V2 V') (k2 : kLo t V2 V') : kLo t V V' := by
  obtain ⟨h1, h2, h3, h4, h5, h6, h7, h8⟩ := m_here H hf c0 hc e4
  obtain ⟨F, G⟩ := k_gl H K hf c0 hc e4 c1 k1 l
  refine ⟨kFs_s (by omega) (kFs_t F k2.1), fun _ n => ?_⟩
  have w : V2 72 65 < 0 := by
    by_cases w : V2 72 65 < 0
    · exact w
    · have := (c2.2 (by omega)).2.2
      omega
  have w1 : V1 72 65 < 0 := by rw [← lfr_e (lay_l l) (j := 65) (by decide)]; exact w
  obtain ⟨F1, q', f, p1, e1, e2, e3, b⟩ := c1
  obtain ⟨q1, L1, d1, a1, a2, a3⟩ := G w
  obtain ⟨q2, L2, d2, b1, b2, b3⟩ := k2.2 w n
  have t2 : mT V2 = mT V := (mfr_T (lfr_m (lay_l l))).trans ((mfr_T F1).trans h6)
  have o2 : V2 72 66 = V 72 66 := (lfr_e (lay_l l) (by decide)).trans ((e3 (by omega)).trans h5)
  have r67 := kFs_67 F
  rw [t2, o2, a1] at d2
  rw [r67, a2] at b3
  have ht : opB t (mT V (V 72 64)) = true := by rw [h1]; exact ho
  have d := kl_n S ht d1 d2
  rw [h1] at d
  have el : L1 ++ (c, 0) :: L2 = (L1 ++ [(c, 0)]) ++ L2 := by rw [List.append_assoc]; rfl
  rw [el] at d
  have e : ((L1 ++ [(c, (0 : Int))]).length : Int) = (L1.length : Int) + 1 := by
    rw [List.length_append]
    show ((L1.length + 1 : Nat) : Int) = _
    omega
  refine ⟨q2, (L1 ++ [(c, 0)]) ++ L2, d, b1, ?_, ?_⟩
  · rw [b2, a2, List.length_append ..]
    omega
  · rw [cAt_a]
    refine ⟨cAt_k _ _ (fun j u v => k2.1.2.1 j (by rw [e] at v; omega)) a3, ?_⟩
    rw [e, show 170 * V 72 67 + V 72 68 + ((L1.length : Int) + 1) = 170 * V 72 67 + (V 72 68 + (L1.length : Int) + 1) by omega]
    exact b3
end

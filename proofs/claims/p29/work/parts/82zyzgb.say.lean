-- ===== the class works a text out =====
section VC
variable {o : Int} {V V1 V4 V' : vS}
-- one comparison, or none
theorem v_cmp0 {y : Int} (e12 : V 33 12 = -1) (c1 : vRes 3 o V y V1) (h : opB 12 (cTx V1 (V1 33 11)) = false) : vRes 5 o V y V1 := by
  intro q L d
  obtain ⟨q1, L1, L2, d1, d2, rfl⟩ := kq_x ksq5 d
  obtain ⟨e1, r1⟩ := c1 q1 L1 d1
  obtain ⟨s1, s2, s3, s4⟩ := v_st e1
  rw [s1, s2] at h
  rcases kc_x d2 with ⟨-, rfl, rfl⟩ | ⟨z, -⟩
  · exact ⟨e1, fun st => by rw [List.append_nil]; exact r1 st⟩
  · rw [h] at z
    cases z
theorem v_cmp1 {c y y1 y2 r : Int} (e12 : V 33 12 = -1) (c1 : vRes 3 o V y1 V1) (k : R125 V1 c y V4) (hy : y ≠ 0) (hc : opB 12 c = true) (nb : c ≠ 1 ∧ c ≠ 2 ∧ c ≠ 3 ∧ c ≠ 4) (c2 : vRes 3 o V4 y2 V') (er : r = bo c y1 y2) : vRes 5 o V r V' := by
  intro q L d
  obtain ⟨q1, L1, L2, d1, d2, rfl⟩ := kq_x ksq5 d
  obtain ⟨e1, r1⟩ := c1 q1 L1 d1
  obtain ⟨s1, s2, s3, s4⟩ := v_st e1
  obtain ⟨⟨k1, k2, k3⟩, k4⟩ := tk_1 k hy
  obtain ⟨u1, u2, u3, u4⟩ := v_st k4
  rw [s1, s2] at k2
  rcases kc_x d2 with ⟨z, -⟩ | ⟨-, L3, d3, rfl⟩
  · rw [k2, hc] at z
    cases z
  · obtain ⟨e2, r2⟩ := c2 q L3 (by rw [u1, s1, u2, s2]; exact d3)
    refine ⟨by rw [e2, k4, e1, up_up, up_up], fun st => ?_⟩
    have r2' := r2 (y1 :: st)
    rw [u4, s4] at r2'
    rw [run_a, r1, run_a, r2', run_c, k2, stp_b nb, ← er]
    rfl
end VC
theorem ev_130 {n : Nat} {X : aX} (C : ct130 (n + 1) X) (K : vt131 n X) : vt130 (n + 1) X := by
  intro h x1 a1 S z1 hp
  refine pt_q (pt_and (C S z1 hp.1) (show Pt (n + 1) X zM130 0 [some (.ref 33), some (.int x1), none] [] h (qI (fun r h' => vRes 5 a1 (vw h) r (vw h'))) from ?_)) ?_
  · refine g130_0 S z1 K ⟨hp, fun y1 h1 k1 => ?_⟩
    obtain ⟨S1, c1, v1⟩ := k1
    obtain ⟨I1, i1⟩ := cR_i hp.1.1 c1
    have m1 := (c13 c1).trans hp.2
    have go : ∀ (c y4 : Int) (h4 : aH), opB 12 c = true → (c ≠ 1 ∧ c ≠ 2 ∧ c ≠ 3 ∧ c ≠ 4) → R125 (vw h1) c y4 (vw h4) → y4 ≠ 0 → (cpre (vw h4) a1 ∧ vw h4 33 13 = ((43 : Nat) : Int)) ∧ ∀ (y : Int) (h12 : aH), (wS h12 ∧ cRes 3 a1 (vw h4) (vw h12) ∧ vRes 3 a1 (vw h4) y (vw h12)) → ∀ r : Int, r = bo c y1 y → vRes 5 a1 (vw h) r (vw h12) := by
      intro c y4 h4 hc nb k4 e4
      obtain ⟨I4, e12, e11⟩ := tk_i I1 k4 e4
      exact ⟨⟨⟨I4, e12, hp.1.2.2⟩, (k13 k4).trans m1⟩, fun y h12 k r er => v_cmp1 hp.1.2.1 v1 k4 e4 hc nb k.2.2 er⟩
    refine ⟨⟨I1, by decide, by decide⟩, fun y3 h3 k3 => ⟨fun e3 => ⟨⟨by rw [(tk_0 k3.2 e3).1]; exact I1, by decide, by decide⟩, fun y6 h6 k6 => ?_⟩, fun e3 => ⟨(go 60 y3 h3 rfl (by decide) k3.2 e3).1, fun y h9 k => ⟨fun z => (go 60 y3 h3 rfl (by decide) k3.2 e3).2 y h9 k _ (by rw [i01, bo_60, bI_f (by omega)]), fun z => (go 60 y3 h3 rfl (by decide) k3.2 e3).2 y h9 k _ (by rw [i11, bo_60, bI_t z])⟩⟩⟩⟩
    obtain ⟨v3, n3⟩ := tk_0 k3.2 e3
    have r6 : R125 (vw h1) 61 y6 (vw h6) := by rw [← v3]; exact k6.2
    refine ⟨fun e6 => ⟨⟨by rw [(tk_0 r6 e6).1]; exact I1, by decide, by decide⟩, fun y9 h9 k9 => ?_⟩, fun e6 => ⟨(go 61 y6 h6 rfl (by decide) r6 e6).1, fun y h9 k => ⟨fun z => (go 61 y6 h6 rfl (by decide) r6 e6).2 y h9 k _ (by rw [i01, bo_61, bI_f z]), fun z => (go 61 y6 h6 rfl (by decide) r6 e6).2 y h9 k _ (by rw [i11, bo_61, bI_t z])⟩⟩⟩
    obtain ⟨v6, n6⟩ := tk_0 r6 e6
    have r9 : R125 (vw h1) 62 y9 (vw h9) := by rw [← v6]; exact k9.2
    refine ⟨fun e9 => ?_, fun e9 => ⟨(go 62 y9 h9 rfl (by decide) r9 e9).1, fun y h11 k => ⟨fun z => (go 62 y9 h9 rfl (by decide) r9 e9).2 y h11 k _ (by rw [i01, bo_62, bI_f (by omega)]), fun z => (go 62 y9 h9 rfl (by decide) r9 e9).2 y h11 k _ (by rw [i11, bo_62, bI_t z])⟩⟩⟩
    obtain ⟨v9, n9⟩ := tk_0 r9 e9
    rw [v9]
    by_cases f1 : vw h1 33 12 = -1
    · refine v_cmp0 hp.1.2.1 v1 ?_
      show ((_ == 60 || _ == 61) || _ == 62) = false
      rw [beq_false_of_ne (n3 f1), beq_false_of_ne (n6 f1), beq_false_of_ne (n9 f1)]
      rfl
    · intro q L d
      obtain ⟨q1, L1, L2, d1, d2, rfl⟩ := kq_x ksq5 d
      obtain ⟨e1, -⟩ := v1 q1 L1 d1
      exact absurd ((v_st e1).2.2.1.trans hp.1.2.1) f1
  · rintro v h' ⟨⟨x, rfl, p1, p2⟩, ⟨x', ev, p3⟩⟩
    exact ⟨x', ev, p1, p2, p3⟩


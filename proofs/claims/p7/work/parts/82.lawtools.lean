-- ===== the law: tools, days =====
theorem f137_0 : aF 0 zM137.2.2.2.2.2.2.2 = some (0, (.iload_n 1), 1, 0, 0) := by decide +kernel
theorem f137_1 : aF 1 zM137.2.2.2.2.2.2.2 = some (1, (.iload_n 0), 1, 0, 0) := by decide +kernel
theorem f137_2 : aF 2 zM137.2.2.2.2.2.2.2 = some (2, (.if_icmp .gt 12), 3, 14, 0) := by decide +kernel
theorem f137_5 : aF 5 zM137.2.2.2.2.2.2.2 = some (5, (.iload_n 0), 1, 0, 0) := by decide +kernel
theorem f137_6 : aF 6 zM137.2.2.2.2.2.2.2 = some (6, (.iload_n 2), 1, 0, 0) := by decide +kernel
theorem f137_7 : aF 7 zM137.2.2.2.2.2.2.2 = some (7, (.if_icmp .gt 7), 3, 14, 0) := by decide +kernel
theorem f137_10 : aF 10 zM137.2.2.2.2.2.2.2 = some (10, (.iconst 1), 1, 0, 0) := by decide +kernel
theorem f137_11 : aF 11 zM137.2.2.2.2.2.2.2 = some (11, (.goto 4), 3, 15, 0) := by decide +kernel
theorem f137_14 : aF 14 zM137.2.2.2.2.2.2.2 = some (14, (.iconst 0), 1, 0, 0) := by decide +kernel
theorem f137_15 : aF 15 zM137.2.2.2.2.2.2.2 = some (15, .ireturn, 1, 0, 0) := by decide +kernel
theorem f144_0 : aF 0 zM144.2.2.2.2.2.2.2 = some (0, (.iload_n 1), 1, 0, 0) := by decide +kernel
theorem f144_1 : aF 1 zM144.2.2.2.2.2.2.2 = some (1, (.iconst 1), 1, 0, 0) := by decide +kernel
theorem f144_2 : aF 2 zM144.2.2.2.2.2.2.2 = some (2, (.sipush 365), 3, 0, 0) := by decide +kernel
theorem f144_5 : aF 5 zM144.2.2.2.2.2.2.2 = some (5, (.invokestatic 85), 3, 137, 0) := by decide +kernel
theorem f144_8 : aF 8 zM144.2.2.2.2.2.2.2 = some (8, (.ifCond .eq 18), 3, 26, 0) := by decide +kernel
theorem f144_11 : aF 11 zM144.2.2.2.2.2.2.2 = some (11, (.aload_n 0), 1, 0, 0) := by decide +kernel
theorem f144_12 : aF 12 zM144.2.2.2.2.2.2.2 = some (12, (.getfield 12), 3, 11, 0) := by decide +kernel
theorem f144_15 : aF 15 zM144.2.2.2.2.2.2.2 = some (15, (.getfield 93), 3, 6, 0) := by decide +kernel
theorem f144_18 : aF 18 zM144.2.2.2.2.2.2.2 = some (18, (.iload_n 1), 1, 0, 0) := by decide +kernel
theorem f144_19 : aF 19 zM144.2.2.2.2.2.2.2 = some (19, .iadd, 1, 0, 0) := by decide +kernel
theorem f144_20 : aF 20 zM144.2.2.2.2.2.2.2 = some (20, (.sipush 3649), 3, 0, 0) := by decide +kernel
theorem f144_23 : aF 23 zM144.2.2.2.2.2.2.2 = some (23, (.if_icmp .le 5), 3, 28, 0) := by decide +kernel
theorem f144_26 : aF 26 zM144.2.2.2.2.2.2.2 = some (26, (.iconst (-1)), 1, 0, 0) := by decide +kernel
theorem f144_27 : aF 27 zM144.2.2.2.2.2.2.2 = some (27, .ireturn, 1, 0, 0) := by decide +kernel
theorem f144_28 : aF 28 zM144.2.2.2.2.2.2.2 = some (28, (.aload_n 0), 1, 0, 0) := by decide +kernel
theorem f144_29 : aF 29 zM144.2.2.2.2.2.2.2 = some (29, (.getfield 12), 3, 11, 0) := by decide +kernel
theorem f144_32 : aF 32 zM144.2.2.2.2.2.2.2 = some (32, .dup, 1, 0, 0) := by decide +kernel
theorem f144_33 : aF 33 zM144.2.2.2.2.2.2.2 = some (33, (.getfield 93), 3, 6, 0) := by decide +kernel
theorem f144_36 : aF 36 zM144.2.2.2.2.2.2.2 = some (36, (.iload_n 1), 1, 0, 0) := by decide +kernel
theorem f144_37 : aF 37 zM144.2.2.2.2.2.2.2 = some (37, .iadd, 1, 0, 0) := by decide +kernel
theorem f144_38 : aF 38 zM144.2.2.2.2.2.2.2 = some (38, (.putfield 93), 3, 6, 0) := by decide +kernel
theorem f144_41 : aF 41 zM144.2.2.2.2.2.2.2 = some (41, (.aload_n 0), 1, 0, 0) := by decide +kernel
theorem f144_42 : aF 42 zM144.2.2.2.2.2.2.2 = some (42, (.getfield 12), 3, 11, 0) := by decide +kernel
theorem f144_45 : aF 45 zM144.2.2.2.2.2.2.2 = some (45, (.getfield 93), 3, 6, 0) := by decide +kernel
theorem f144_48 : aF 48 zM144.2.2.2.2.2.2.2 = some (48, .ireturn, 1, 0, 0) := by decide +kernel
theorem f199_0 : aF 0 zM199.2.2.2.2.2.2.2 = some (0, (.iload_n 1), 1, 0, 0) := by decide +kernel
theorem f199_1 : aF 1 zM199.2.2.2.2.2.2.2 = some (1, (.iconst 1), 1, 0, 0) := by decide +kernel
theorem f199_2 : aF 2 zM199.2.2.2.2.2.2.2 = some (2, (.sipush 365), 3, 0, 0) := by decide +kernel
theorem f199_5 : aF 5 zM199.2.2.2.2.2.2.2 = some (5, (.invokestatic 258), 3, 196, 0) := by decide +kernel
theorem f199_8 : aF 8 zM199.2.2.2.2.2.2.2 = some (8, (.ifCond .eq 15), 3, 23, 0) := by decide +kernel
theorem f199_11 : aF 11 zM199.2.2.2.2.2.2.2 = some (11, (.aload_n 0), 1, 0, 0) := by decide +kernel
theorem f199_12 : aF 12 zM199.2.2.2.2.2.2.2 = some (12, (.getfield 262), 3, 12, 1) := by decide +kernel
theorem f199_15 : aF 15 zM199.2.2.2.2.2.2.2 = some (15, (.iload_n 1), 1, 0, 0) := by decide +kernel
theorem f199_16 : aF 16 zM199.2.2.2.2.2.2.2 = some (16, .iadd, 1, 0, 0) := by decide +kernel
theorem f199_17 : aF 17 zM199.2.2.2.2.2.2.2 = some (17, (.sipush 3649), 3, 0, 0) := by decide +kernel
theorem f199_20 : aF 20 zM199.2.2.2.2.2.2.2 = some (20, (.if_icmp .le 5), 3, 25, 0) := by decide +kernel
theorem f199_23 : aF 23 zM199.2.2.2.2.2.2.2 = some (23, (.iconst (-1)), 1, 0, 0) := by decide +kernel
theorem f199_24 : aF 24 zM199.2.2.2.2.2.2.2 = some (24, .ireturn, 1, 0, 0) := by decide +kernel
theorem f199_25 : aF 25 zM199.2.2.2.2.2.2.2 = some (25, (.aload_n 0), 1, 0, 0) := by decide +kernel
theorem f199_26 : aF 26 zM199.2.2.2.2.2.2.2 = some (26, .dup, 1, 0, 0) := by decide +kernel
theorem f199_27 : aF 27 zM199.2.2.2.2.2.2.2 = some (27, (.getfield 262), 3, 12, 1) := by decide +kernel
theorem f199_30 : aF 30 zM199.2.2.2.2.2.2.2 = some (30, (.iload_n 1), 1, 0, 0) := by decide +kernel
theorem f199_31 : aF 31 zM199.2.2.2.2.2.2.2 = some (31, .iadd, 1, 0, 0) := by decide +kernel
theorem f199_32 : aF 32 zM199.2.2.2.2.2.2.2 = some (32, (.putfield 262), 3, 12, 1) := by decide +kernel
theorem f199_35 : aF 35 zM199.2.2.2.2.2.2.2 = some (35, (.aload_n 0), 1, 0, 0) := by decide +kernel
theorem f199_36 : aF 36 zM199.2.2.2.2.2.2.2 = some (36, (.getfield 262), 3, 12, 1) := by decide +kernel
theorem f199_39 : aF 39 zM199.2.2.2.2.2.2.2 = some (39, .ireturn, 1, 0, 0) := by decide +kernel
def JP (h : aH) : Prop := ∃ (fs f2 : List Value) (t n p : Int32), h.1[1]? = some (.inr (6, fs)) ∧ fs[0]? = some (.int t) ∧ fs[1]? = some (.int n) ∧ fs[4]? = some (.int p) ∧ p.toInt ≤ n.toInt ∧ h.1[72]? = some (.inr (12, f2)) ∧ f2[1]? = some (.int t)
theorem JP_dG {σ σ' : List Nat} {h h' : aH} {W : List (Nat × Nat)} (J : JP h) (I : dI σ h) (G : dG W σ h σ' h') (k : (!(cWn W 1 0) && !(cWn W 1 1) && !(cWn W 1 4) && !(cWn W 72 1)) = true) : JP h' := by
  simp only [Bool.and_eq_true, Bool.not_eq_true'] at k
  obtain ⟨⟨⟨k1, k2⟩, k3⟩, k4⟩ := k
  obtain ⟨fs, f2, t, n, p, c1, a1, a2, a3, a4, c2, a5⟩ := J
  obtain ⟨gs, d1, e1⟩ := dG_o I.1 G c1 (by decide)
  obtain ⟨g2, d2, e2⟩ := dG_o I.1 G c2 (by decide)
  exact ⟨gs, g2, t, n, p, d1, (e1 0 k1).trans a1, (e1 1 k2).trans a2, (e1 4 k3).trans a3, a4, d2, (e2 1 k4).trans a5⟩
theorem JP_of {σ σ' : List Nat} {h h' : aH} {W : List (Nat × Nat)} (J : JP h) (I : dI σ h) (G : dG W σ h σ' h') (k : (!(cWn W 1 0) && !(cWn W 72 1)) = true) {ρ : List Int} {rh : List Nat} {K : cK} (hK : dK σ' h' ρ rh K) {a b : Nat} {oa ob c : Int} (f1 : (1, 1, 1, a, oa) ∈ K.2.2.2.2.1) (f4 : (1, 4, 1, b, ob) ∈ K.2.2.2.2.1) (hd : (b, a, c) ∈ K.2.1) (hc : c + ob ≤ oa) : JP h' := by
  simp only [Bool.and_eq_true, Bool.not_eq_true'] at k
  obtain ⟨k1, k4⟩ := k
  obtain ⟨fs, f2, t, n, p, c1, a1, a2, a3, a4, c2, a5⟩ := J
  obtain ⟨gs, d1, e1⟩ := dG_o I.1 G c1 (by decide)
  obtain ⟨g2, d2, e2⟩ := dG_o I.1 G c2 (by decide)
  obtain ⟨q, ci, us, v, x1, x2, x3, x4⟩ := hK.2.2.2.2.1 _ f1
  obtain ⟨q', ci', us', v', y1, y2, y3, y4⟩ := hK.2.2.2.2.1 _ f4
  dsimp only at x1 x3 x4 y1 y3 y4
  obtain ⟨n', z, rfl, x5, x6⟩ := x4
  obtain ⟨p', z', rfl, y5, y6⟩ := y4
  dsimp only at x5 x6 y5 y6
  have hq : ∀ {q : Nat}, dR rh 1 q → q = 1 := by
    rintro q (⟨-, e⟩ | ⟨e, -⟩)
    · exact e
    · omega
  cases hq x1
  cases hq y1
  cases d1.symm.trans x2
  cases d1.symm.trans y2
  obtain ⟨ya, yb, w1, w2, w3⟩ := hK.2.1 _ hd
  dsimp only at w1 w2 w3
  cases y5.symm.trans w1
  cases x5.symm.trans w2
  exact ⟨gs, g2, t, n', p', d1, (e1 0 k1).trans a1, x3, y3, by omega, d2, (e2 1 k4).trans a5⟩
theorem dK_np {σ : List Nat} {h : aH} {ρ : List Int} {V : cV} {a b : Nat} {fs : List Value} {n p : Int32} (k : kV ρ V) (c1 : h.1[1]? = some (.inr (6, fs))) (f1 : fs[1]? = some (.int n)) (f4 : fs[4]? = some (.int p)) (ea : ρ[a]? = some n.toInt) (eb : ρ[b]? = some p.toInt) (hp : p.toInt ≤ n.toInt) : dK σ h ρ [] (V, [(b, a, 0)], [], [], [(1, 1, 1, a, 0), (1, 4, 1, b, 0)], [], []) := by
  refine ⟨k, fun t ht => ?_, fun t ht => (by cases ht), ⟨rfl, fun i r e => (by simp at e)⟩, fun t ht => ?_, fun t ht => (by cases ht), fun t ht => (by cases ht)⟩
  · cases List.mem_singleton.mp ht
    exact ⟨_, _, eb, ea, by show _ ≤ (0 : Int); omega⟩
  · simp only [List.mem_cons, List.not_mem_nil, or_false] at ht
    rcases ht with rfl | rfl
    · exact ⟨1, 6, fs, _, Or.inl ⟨(by show 1 < 146; decide), rfl⟩, c1, f1, n, _, rfl, ea, by show _ = _ + (0 : Int); omega⟩
    · exact ⟨1, 6, fs, _, Or.inl ⟨(by show 1 < 146; decide), rfl⟩, c1, f4, p, _, rfl, eb, by show _ = _ + (0 : Int); omega⟩
section WL
variable {X : aX} {D : Nat} {M : aM} {Q : Option Value → aH → Prop} {pc len a b : Nat} {l : aL} {r : List Value} {h : aH}
theorem w_xld {x k : Nat} {j : Int32} {f : Nat → Int32} (hf : aF pc M.2.2.2.2.2.2.2 = some (pc, .iaload, len, a, b)) (hX : X x = some (k, f)) (h1 : 0 ≤ j.toInt) (h2 : j.toInt < (k : Int)) (kk : ∀ v : Int32, v = f j.toInt.toNat → Wp X D M Q (pc + 1) l (.int v :: r) h) : Wp X D M Q pc l (.int j :: .retAddr x :: r) h := wp1 (fun n d => r_xld hf hX (ix_ok h1 h2) rfl) (kk _ rfl)
theorem w_lshl' {x : Int64} {y : Int32} (hf : aF pc M.2.2.2.2.2.2.2 = some (pc, .lshl, len, a, b)) (k : ∀ z : Int64, Wp X D M Q (pc + 1) l (.long z :: r) h) : Wp X D M Q pc l (.int y :: .long x :: r) h := wp1 (fun n d => r_lshl hf rfl) (k _)
theorem w_land' {x y : Int64} (hf : aF pc M.2.2.2.2.2.2.2 = some (pc, .land, len, a, b)) (k : ∀ z : Int64, Wp X D M Q (pc + 1) l (.long z :: r) h) : Wp X D M Q pc l (.long y :: .long x :: r) h := wp1 (fun n d => r_land hf rfl) (k _)
theorem w_lor' {x y : Int64} (hf : aF pc M.2.2.2.2.2.2.2 = some (pc, .lor, len, a, b)) (k : ∀ z : Int64, Wp X D M Q (pc + 1) l (.long z :: r) h) : Wp X D M Q pc l (.long y :: .long x :: r) h := wp1 (fun n d => r_lor hf rfl) (k _)
end WL
theorem within_wp {X : aX} {D : Nat} {h : aH} {x a b : Int32} : Wp X D zM137 (fun v h' => h = h' ∧ ∃ r : Int32, v = some (.int r) ∧ (r.toInt = 0 ∨ r.toInt = 1) ∧ (r.toInt = 1 ↔ a.toInt ≤ x.toInt ∧ x.toInt ≤ b.toInt)) 0 [some (.int x), some (.int a), some (.int b)] [] h := by
  have k14 : ¬ (a.toInt ≤ x.toInt ∧ x.toInt ≤ b.toInt) → Wp X D zM137 (fun v h' => h = h' ∧ ∃ r : Int32, v = some (.int r) ∧ (r.toInt = 0 ∨ r.toInt = 1) ∧ (r.toInt = 1 ↔ a.toInt ≤ x.toInt ∧ x.toInt ≤ b.toInt)) 14 [some (.int x), some (.int a), some (.int b)] [] h := fun q =>
    w_iconst f137_14 (fun v hv => wp_end (fun n d => r_zreturn f137_15 rfl (Or.inl (b_i.mpr hv))) ⟨rfl, v, rfl, Or.inl hv, fun e => by omega, fun e => absurd e q⟩)
  refine wp1 (fun n d => r_iloadn f137_0 rfl) ?_
  refine wp1 (fun n d => r_iloadn f137_1 rfl) ?_
  refine w_icmp_gt f137_2 (fun _ => k14 (by omega)) (fun e2 => ?_)
  refine wp1 (fun n d => r_iloadn f137_5 rfl) ?_
  refine wp1 (fun n d => r_iloadn f137_6 rfl) ?_
  refine w_icmp_gt f137_7 (fun _ => k14 (by omega)) (fun e7 => ?_)
  refine w_iconst f137_10 (fun v hv => ?_)
  refine wp1 (fun n d => r_goto f137_11) ?_
  exact wp_end (fun n d => r_zreturn f137_15 rfl (Or.inr (b_i.mpr hv))) ⟨rfl, v, rfl, Or.inr hv, fun _ => ⟨by omega, by omega⟩, fun _ => hv⟩
theorem inx_wp {X : aX} {D : Nat} {h : aH} {x a b : Int32} : Wp X D zM196 (fun v h' => h = h' ∧ ∃ r : Int32, v = some (.int r) ∧ (r.toInt = 0 ∨ r.toInt = 1) ∧ (r.toInt = 1 ↔ a.toInt ≤ x.toInt ∧ x.toInt ≤ b.toInt)) 0 [some (.int x), some (.int a), some (.int b)] [] h := by
  have k14 : ¬ (a.toInt ≤ x.toInt ∧ x.toInt ≤ b.toInt) → Wp X D zM196 (fun v h' => h = h' ∧ ∃ r : Int32, v = some (.int r) ∧ (r.toInt = 0 ∨ r.toInt = 1) ∧ (r.toInt = 1 ↔ a.toInt ≤ x.toInt ∧ x.toInt ≤ b.toInt)) 14 [some (.int x), some (.int a), some (.int b)] [] h := fun q =>
    w_iconst f196_14 (fun v hv => wp_end (fun n d => r_zreturn f196_15 rfl (Or.inl (b_i.mpr hv))) ⟨rfl, v, rfl, Or.inl hv, fun e => by omega, fun e => absurd e q⟩)
  refine wp1 (fun n d => r_iloadn f196_0 rfl) ?_
  refine wp1 (fun n d => r_iloadn f196_1 rfl) ?_
  refine w_icmp_lt f196_2 (fun _ => k14 (by omega)) (fun e2 => ?_)
  refine wp1 (fun n d => r_iloadn f196_5 rfl) ?_
  refine wp1 (fun n d => r_iloadn f196_6 rfl) ?_
  refine w_icmp_gt f196_7 (fun _ => k14 (by omega)) (fun e7 => ?_)
  refine w_iconst f196_10 (fun v hv => ?_)
  refine wp1 (fun n d => r_goto f196_11) ?_
  exact wp_end (fun n d => r_zreturn f196_15 rfl (Or.inr (b_i.mpr hv))) ⟨rfl, v, rfl, Or.inr hv, fun _ => ⟨by omega, by omega⟩, fun _ => hv⟩
/-- what days answers, and the day that stands then -/
def dyf (x t r t' : Int32) : Prop := (1 ≤ x.toInt ∧ x.toInt ≤ 365 ∧ t.toInt + x.toInt ≤ 3649 ∧ t'.toInt = t.toInt + x.toInt ∧ r.toInt = t.toInt + x.toInt) ∨ (¬ (1 ≤ x.toInt ∧ x.toInt ≤ 365 ∧ t.toInt + x.toInt ≤ 3649) ∧ t' = t ∧ r.toInt = -1)
theorem dyf_eq {x t r1 t1 r2 t2 : Int32} (h1 : dyf x t r1 t1) (h2 : dyf x t r2 t2) : r1.toInt = r2.toInt ∧ t1 = t2 := by
  unfold dyf at h1 h2
  rcases h1 with ⟨a, b, c, d, e⟩ | ⟨a, b, c⟩ <;> rcases h2 with ⟨a', b', c', d', e'⟩ | ⟨a', b', c'⟩
  · exact ⟨by omega, b_i.mpr (by omega)⟩
  · exact absurd ⟨a, b, c⟩ a'
  · exact absurd ⟨a', b', c'⟩ a
  · exact ⟨by omega, b.trans b'.symm⟩
theorem days_144 {X : aX} {σ : List Nat} {h : aH} {x t : Int32} {fs : List Value} (I : dI σ h) (c : h.1[1]? = some (.inr (6, fs))) (F : fs[0]? = some (.int t)) : Wp X 1 zM144 (fun v h' => dI σ h' ∧ dG [(1, 0)] σ h σ h' ∧ ∃ (r t' : Int32) (fs' : List Value), v = some (.int r) ∧ h'.1[1]? = some (.inr (6, fs')) ∧ fs'[0]? = some (.int t') ∧ (∀ i, 0 ≠ i → fs'[i]? = fs[i]?) ∧ (∀ q, 1 ≠ q → h'.1[q]? = h.1[q]?) ∧ dyf x t r t') 0 [some (.ref 0), some (.int x)] [] h := by
  obtain ⟨t0, F0, t1, t2⟩ := hI_i I c (f := 0) (lo := 0) (hi := 3649) (by decide +kernel)
  cases F.symm.trans F0
  have kb : ¬ (1 ≤ x.toInt ∧ x.toInt ≤ 365 ∧ t.toInt + x.toInt ≤ 3649) → Wp X 1 zM144 (fun v h' => dI σ h' ∧ dG [(1, 0)] σ h σ h' ∧ ∃ (r t' : Int32) (fs' : List Value), v = some (.int r) ∧ h'.1[1]? = some (.inr (6, fs')) ∧ fs'[0]? = some (.int t') ∧ (∀ i, 0 ≠ i → fs'[i]? = fs[i]?) ∧ (∀ q, 1 ≠ q → h'.1[q]? = h.1[q]?) ∧ dyf x t r t') 26 [some (.ref 0), some (.int x)] [] h := fun q => w_iconst f144_26 (fun v hv => wp_end (fun n d => r_ireturn f144_27 rfl) ⟨I, dG_refl _ _ _, v, t, fs, rfl, c, F, fun _ _ => rfl, fun _ _ => rfl, Or.inr ⟨q, rfl, hv⟩⟩)
  refine wp1 (fun n d => r_iloadn f144_0 rfl) ?_
  refine w_iconst f144_1 (fun v1 hv1 => ?_)
  refine w_sipush f144_2 (fun v2 hv2 => ?_)
  refine wp_in (lv := 0) (Y := zM137) (within_wp) (fun n d v h' e => r_stat (as := [.int x, .int v1, .int v2]) (r := []) f144_5 rfl (show zmt[137]? = some zM137 from rfl) rfl rfl rfl rfl rfl rfl e) (by first | decide | omega) ?_
  rintro v h' ⟨rfl, v5, rfl, z, hr⟩
  show Wp _ _ _ _ 8 [some (.ref 0), some (.int x)] [.int v5] _
  refine w_if_eq f144_8 (fun q => kb (by omega)) (fun q8 => ?_)
  have hx := hr.mp (by omega)
  refine wp1 (fun n d => r_aloadn f144_11 rfl) ?_
  obtain ⟨fs1001, c1001⟩ := hI_o I (r := 0) (ci := 11) (by decide +kernel)
  have F1002 := hI_r I c1001 (f := 0) (q := 1) (by decide +kernel)
  refine w_get f144_12 c1001 F1002 ?_
  refine w_get f144_15 c F ?_
  refine wp1 (fun n d => r_iloadn f144_18 rfl) ?_
  refine w_iadd f144_19 (by omega) (by omega) (fun v19 hv19 => ?_)
  refine w_sipush f144_20 (fun v20 hv20 => ?_)
  refine w_icmp_le f144_23 (fun e => ?_) (fun e => kb (by omega))
  refine wp1 (fun n d => r_aloadn f144_28 rfl) ?_
  refine w_get f144_29 c1001 F1002 ?_
  refine wp1 (fun n d => r_dup f144_32 rfl) ?_
  refine w_get f144_33 c F ?_
  refine wp1 (fun n d => r_iloadn f144_36 rfl) ?_
  refine w_iadd f144_37 (by omega) (by omega) (fun v37 hv37 => ?_)
  refine w_putI f144_38 c I (W := [(1, 0)]) (lo := 0) (hi := 3649) (by decide +kernel) (by decide) (by decide) (by omega) (by omega) (by decide) (by first | rfl | (simp [aok, zY])) (fun h1003 fs1003 I1003 G1003 c1003 Fx1003 nf1003 ne1003 => ?_)
  have c1004 := (ne1003 0 (by decide)).trans c1001
  refine wp1 (fun n d => r_aloadn f144_41 rfl) ?_
  refine w_get f144_42 c1004 F1002 ?_
  refine w_get f144_45 c1003 Fx1003 ?_
  exact wp_end (fun n d => r_ireturn f144_48 rfl) ⟨I1003, G1003, _, _, _, rfl, c1003, Fx1003, nf1003, ne1003, Or.inl ⟨by omega, by omega, by omega, by omega, by omega⟩⟩
theorem days_199 {X : aX} {σ : List Nat} {h : aH} {x t : Int32} {fs : List Value} (I : dI σ h) (c : h.1[72]? = some (.inr (12, fs))) (F : fs[1]? = some (.int t)) : Wp X 1 zM199 (fun v h' => dI σ h' ∧ dG [(72, 1)] σ h σ h' ∧ ∃ (r t' : Int32) (fs' : List Value), v = some (.int r) ∧ h'.1[72]? = some (.inr (12, fs')) ∧ fs'[1]? = some (.int t') ∧ (∀ i, 1 ≠ i → fs'[i]? = fs[i]?) ∧ (∀ q, 72 ≠ q → h'.1[q]? = h.1[q]?) ∧ dyf x t r t') 0 [some (.ref 72), some (.int x)] [] h := by
  obtain ⟨t0, F0, t1, t2⟩ := hI_i I c (f := 1) (lo := 0) (hi := 3649) (by decide +kernel)
  cases F.symm.trans F0
  have kb : ¬ (1 ≤ x.toInt ∧ x.toInt ≤ 365 ∧ t.toInt + x.toInt ≤ 3649) → Wp X 1 zM199 (fun v h' => dI σ h' ∧ dG [(72, 1)] σ h σ h' ∧ ∃ (r t' : Int32) (fs' : List Value), v = some (.int r) ∧ h'.1[72]? = some (.inr (12, fs')) ∧ fs'[1]? = some (.int t') ∧ (∀ i, 1 ≠ i → fs'[i]? = fs[i]?) ∧ (∀ q, 72 ≠ q → h'.1[q]? = h.1[q]?) ∧ dyf x t r t') 23 [some (.ref 72), some (.int x)] [] h := fun q => w_iconst f199_23 (fun v hv => wp_end (fun n d => r_ireturn f199_24 rfl) ⟨I, dG_refl _ _ _, v, t, fs, rfl, c, F, fun _ _ => rfl, fun _ _ => rfl, Or.inr ⟨q, rfl, hv⟩⟩)
  refine wp1 (fun n d => r_iloadn f199_0 rfl) ?_
  refine w_iconst f199_1 (fun v1 hv1 => ?_)
  refine w_sipush f199_2 (fun v2 hv2 => ?_)
  refine wp_in (lv := 0) (Y := zM196) (inx_wp) (fun n d v h' e => r_stat (as := [.int x, .int v1, .int v2]) (r := []) f199_5 rfl (show zmt[196]? = some zM196 from rfl) rfl rfl rfl rfl rfl rfl e) (by first | decide | omega) ?_
  rintro v h' ⟨rfl, v5, rfl, z, hr⟩
  show Wp _ _ _ _ 8 [some (.ref 72), some (.int x)] [.int v5] _
  refine w_if_eq f199_8 (fun q => kb (by omega)) (fun q8 => ?_)
  have hx := hr.mp (by omega)
  refine wp1 (fun n d => r_aloadn f199_11 rfl) ?_
  refine w_get f199_12 c F ?_
  refine wp1 (fun n d => r_iloadn f199_15 rfl) ?_
  refine w_iadd f199_16 (by omega) (by omega) (fun v16 hv16 => ?_)
  refine w_sipush f199_17 (fun v17 hv17 => ?_)
  refine w_icmp_le f199_20 (fun e => ?_) (fun e => kb (by omega))
  refine wp1 (fun n d => r_aloadn f199_25 rfl) ?_
  refine wp1 (fun n d => r_dup f199_26 rfl) ?_
  refine w_get f199_27 c F ?_
  refine wp1 (fun n d => r_iloadn f199_30 rfl) ?_
  refine w_iadd f199_31 (by omega) (by omega) (fun v31 hv31 => ?_)
  refine w_putI f199_32 c I (W := [(72, 1)]) (lo := 0) (hi := 3649) (by decide +kernel) (by decide) (by decide) (by omega) (by omega) (by decide) (by first | rfl | (simp [aok, zY])) (fun h1001 fs1001 I1001 G1001 c1001 Fx1001 nf1001 ne1001 => ?_)
  refine wp1 (fun n d => r_aloadn f199_35 rfl) ?_
  refine w_get f199_36 c1001 Fx1001 ?_
  exact wp_end (fun n d => r_ireturn f199_39 rfl) ⟨I1001, G1001, _, _, _, rfl, c1001, Fx1001, nf1001, ne1001, Or.inl ⟨by omega, by omega, by omega, by omega, by omega⟩⟩

-- ===== by hand: the parser, its state and its leaves =====
theorem f251_0 : aF 0 zM251.2.2.2.2.2.2.2 = some (0, (.aload_n 0), 1, 0, 0) := by decide +kernel
theorem f251_1 : aF 1 zM251.2.2.2.2.2.2.2 = some (1, (.getfield 394), 3, 12, 64) := by decide +kernel
theorem f251_4 : aF 4 zM251.2.2.2.2.2.2.2 = some (4, (.aload_n 0), 1, 0, 0) := by decide +kernel
theorem f251_5 : aF 5 zM251.2.2.2.2.2.2.2 = some (5, (.getfield 391), 3, 12, 54) := by decide +kernel
theorem f251_8 : aF 8 zM251.2.2.2.2.2.2.2 = some (8, (.if_icmp .ge 15), 3, 23, 0) := by decide +kernel
theorem f251_11 : aF 11 zM251.2.2.2.2.2.2.2 = some (11, (.aload_n 0), 1, 0, 0) := by decide +kernel
theorem f251_12 : aF 12 zM251.2.2.2.2.2.2.2 = some (12, (.getfield 148), 3, 12, 53) := by decide +kernel
theorem f251_15 : aF 15 zM251.2.2.2.2.2.2.2 = some (15, (.aload_n 0), 1, 0, 0) := by decide +kernel
theorem f251_16 : aF 16 zM251.2.2.2.2.2.2.2 = some (16, (.getfield 394), 3, 12, 64) := by decide +kernel
theorem f251_19 : aF 19 zM251.2.2.2.2.2.2.2 = some (19, .baload, 1, 0, 0) := by decide +kernel
theorem f251_20 : aF 20 zM251.2.2.2.2.2.2.2 = some (20, (.goto 4), 3, 24, 0) := by decide +kernel
theorem f251_23 : aF 23 zM251.2.2.2.2.2.2.2 = some (23, (.iconst (-1)), 1, 0, 0) := by decide +kernel
theorem f251_24 : aF 24 zM251.2.2.2.2.2.2.2 = some (24, .ireturn, 1, 0, 0) := by decide +kernel
theorem f252_0 : aF 0 zM252.2.2.2.2.2.2.2 = some (0, (.aload_n 0), 1, 0, 0) := by decide +kernel
theorem f252_1 : aF 1 zM252.2.2.2.2.2.2.2 = some (1, (.getfield 397), 3, 12, 65) := by decide +kernel
theorem f252_4 : aF 4 zM252.2.2.2.2.2.2.2 = some (4, (.ifCond .ge 11), 3, 15, 0) := by decide +kernel
theorem f252_7 : aF 7 zM252.2.2.2.2.2.2.2 = some (7, (.aload_n 0), 1, 0, 0) := by decide +kernel
theorem f252_8 : aF 8 zM252.2.2.2.2.2.2.2 = some (8, (.aload_n 0), 1, 0, 0) := by decide +kernel
theorem f252_9 : aF 9 zM252.2.2.2.2.2.2.2 = some (9, (.getfield 394), 3, 12, 64) := by decide +kernel
theorem f252_12 : aF 12 zM252.2.2.2.2.2.2.2 = some (12, (.putfield 397), 3, 12, 65) := by decide +kernel
theorem f252_15 : aF 15 zM252.2.2.2.2.2.2.2 = some (15, .return_, 1, 0, 0) := by decide +kernel
theorem f253_0 : aF 0 zM253.2.2.2.2.2.2.2 = some (0, (.aload_n 0), 1, 0, 0) := by decide +kernel
theorem f253_1 : aF 1 zM253.2.2.2.2.2.2.2 = some (1, (.getfield 170), 3, 12, 62) := by decide +kernel
theorem f253_4 : aF 4 zM253.2.2.2.2.2.2.2 = some (4, (.sipush 170), 3, 0, 0) := by decide +kernel
theorem f253_7 : aF 7 zM253.2.2.2.2.2.2.2 = some (7, (.aload_n 0), 1, 0, 0) := by decide +kernel
theorem f253_8 : aF 8 zM253.2.2.2.2.2.2.2 = some (8, (.getfield 400), 3, 12, 67) := by decide +kernel
theorem f253_11 : aF 11 zM253.2.2.2.2.2.2.2 = some (11, .imul, 1, 0, 0) := by decide +kernel
theorem f253_12 : aF 12 zM253.2.2.2.2.2.2.2 = some (12, (.aload_n 0), 1, 0, 0) := by decide +kernel
theorem f253_13 : aF 13 zM253.2.2.2.2.2.2.2 = some (13, (.getfield 403), 3, 12, 68) := by decide +kernel
theorem f253_16 : aF 16 zM253.2.2.2.2.2.2.2 = some (16, .iadd, 1, 0, 0) := by decide +kernel
theorem f253_17 : aF 17 zM253.2.2.2.2.2.2.2 = some (17, (.iload_n 1), 1, 0, 0) := by decide +kernel
theorem f253_18 : aF 18 zM253.2.2.2.2.2.2.2 = some (18, .iastore, 1, 0, 0) := by decide +kernel
theorem f253_19 : aF 19 zM253.2.2.2.2.2.2.2 = some (19, (.aload_n 0), 1, 0, 0) := by decide +kernel
theorem f253_20 : aF 20 zM253.2.2.2.2.2.2.2 = some (20, (.getfield 173), 3, 12, 63) := by decide +kernel
theorem f253_23 : aF 23 zM253.2.2.2.2.2.2.2 = some (23, (.sipush 170), 3, 0, 0) := by decide +kernel
theorem f253_26 : aF 26 zM253.2.2.2.2.2.2.2 = some (26, (.aload_n 0), 1, 0, 0) := by decide +kernel
theorem f253_27 : aF 27 zM253.2.2.2.2.2.2.2 = some (27, (.getfield 400), 3, 12, 67) := by decide +kernel
theorem f253_30 : aF 30 zM253.2.2.2.2.2.2.2 = some (30, .imul, 1, 0, 0) := by decide +kernel
theorem f253_31 : aF 31 zM253.2.2.2.2.2.2.2 = some (31, (.aload_n 0), 1, 0, 0) := by decide +kernel
theorem f253_32 : aF 32 zM253.2.2.2.2.2.2.2 = some (32, (.getfield 403), 3, 12, 68) := by decide +kernel
theorem f253_35 : aF 35 zM253.2.2.2.2.2.2.2 = some (35, .iadd, 1, 0, 0) := by decide +kernel
theorem f253_36 : aF 36 zM253.2.2.2.2.2.2.2 = some (36, (.iload_n 2), 1, 0, 0) := by decide +kernel
theorem f253_37 : aF 37 zM253.2.2.2.2.2.2.2 = some (37, .iastore, 1, 0, 0) := by decide +kernel
theorem f253_38 : aF 38 zM253.2.2.2.2.2.2.2 = some (38, (.aload_n 0), 1, 0, 0) := by decide +kernel
theorem f253_39 : aF 39 zM253.2.2.2.2.2.2.2 = some (39, .dup, 1, 0, 0) := by decide +kernel
theorem f253_40 : aF 40 zM253.2.2.2.2.2.2.2 = some (40, (.getfield 403), 3, 12, 68) := by decide +kernel
theorem f253_43 : aF 43 zM253.2.2.2.2.2.2.2 = some (43, (.iconst 1), 1, 0, 0) := by decide +kernel
theorem f253_44 : aF 44 zM253.2.2.2.2.2.2.2 = some (44, .iadd, 1, 0, 0) := by decide +kernel
theorem f253_45 : aF 45 zM253.2.2.2.2.2.2.2 = some (45, (.putfield 403), 3, 12, 68) := by decide +kernel
theorem f253_48 : aF 48 zM253.2.2.2.2.2.2.2 = some (48, .return_, 1, 0, 0) := by decide +kernel
theorem f254_0 : aF 0 zM254.2.2.2.2.2.2.2 = some (0, (.aload_n 0), 1, 0, 0) := by decide +kernel
theorem f254_1 : aF 1 zM254.2.2.2.2.2.2.2 = some (1, (.getfield 406), 3, 12, 66) := by decide +kernel
theorem f254_4 : aF 4 zM254.2.2.2.2.2.2.2 = some (4, (.bipush 8), 2, 0, 0) := by decide +kernel
theorem f254_6 : aF 6 zM254.2.2.2.2.2.2.2 = some (6, (.if_icmp .ne 9), 3, 15, 0) := by decide +kernel
theorem f254_9 : aF 9 zM254.2.2.2.2.2.2.2 = some (9, (.aload_n 0), 1, 0, 0) := by decide +kernel
theorem f254_10 : aF 10 zM254.2.2.2.2.2.2.2 = some (10, (.invokevirtual 409), 3, 252, 0) := by decide +kernel
theorem f254_13 : aF 13 zM254.2.2.2.2.2.2.2 = some (13, (.iconst 0), 1, 0, 0) := by decide +kernel
theorem f254_14 : aF 14 zM254.2.2.2.2.2.2.2 = some (14, .ireturn, 1, 0, 0) := by decide +kernel
theorem f254_15 : aF 15 zM254.2.2.2.2.2.2.2 = some (15, (.aload_n 0), 1, 0, 0) := by decide +kernel
theorem f254_16 : aF 16 zM254.2.2.2.2.2.2.2 = some (16, .dup, 1, 0, 0) := by decide +kernel
theorem f254_17 : aF 17 zM254.2.2.2.2.2.2.2 = some (17, (.getfield 406), 3, 12, 66) := by decide +kernel
theorem f254_20 : aF 20 zM254.2.2.2.2.2.2.2 = some (20, (.iconst 1), 1, 0, 0) := by decide +kernel
theorem f254_21 : aF 21 zM254.2.2.2.2.2.2.2 = some (21, .iadd, 1, 0, 0) := by decide +kernel
theorem f254_22 : aF 22 zM254.2.2.2.2.2.2.2 = some (22, (.putfield 406), 3, 12, 66) := by decide +kernel
theorem f254_25 : aF 25 zM254.2.2.2.2.2.2.2 = some (25, (.aload_n 0), 1, 0, 0) := by decide +kernel
theorem f254_26 : aF 26 zM254.2.2.2.2.2.2.2 = some (26, .dup, 1, 0, 0) := by decide +kernel
theorem f254_27 : aF 27 zM254.2.2.2.2.2.2.2 = some (27, (.getfield 394), 3, 12, 64) := by decide +kernel
theorem f254_30 : aF 30 zM254.2.2.2.2.2.2.2 = some (30, (.iconst 1), 1, 0, 0) := by decide +kernel
theorem f254_31 : aF 31 zM254.2.2.2.2.2.2.2 = some (31, .iadd, 1, 0, 0) := by decide +kernel
theorem f254_32 : aF 32 zM254.2.2.2.2.2.2.2 = some (32, (.putfield 394), 3, 12, 64) := by decide +kernel
theorem f254_35 : aF 35 zM254.2.2.2.2.2.2.2 = some (35, (.iconst 1), 1, 0, 0) := by decide +kernel
theorem f254_36 : aF 36 zM254.2.2.2.2.2.2.2 = some (36, .ireturn, 1, 0, 0) := by decide +kernel
def lWP : List (Nat × Nat) := [(72, 64), (72, 65), (72, 66), (72, 68), (122, 0), (123, 0)]
def stp (o v : Int32) (n n' : Nat) : Prop := (o = 1 ∧ n' = n + 1) ∨ (o = 2 ∧ 0 ≤ v.toInt ∧ v.toInt ≤ 12 ∧ n' = n + 1) ∨ ((o = 3 ∨ o = 4) ∧ 1 ≤ n ∧ n' = n) ∨ (¬ o = 1 ∧ ¬ o = 2 ∧ ¬ o = 3 ∧ ¬ o = 4 ∧ 2 ≤ n ∧ n' + 1 = n)
def seg (ga gw : Nat → Int32) (b a e n n' : Nat) : Prop := ∃ H : Nat → Nat, H a = n ∧ H e = n' ∧ ∀ k, a ≤ k → k < e → stp (ga (b + k)) (gw (b + k)) (H k) (H (k + 1))
theorem seg_nil {ga gw : Nat → Int32} {b a n : Nat} : seg ga gw b a a n n := ⟨fun _ => n, rfl, rfl, fun k h1 h2 => absurd h1 (by omega)⟩
theorem seg_app {ga gw : Nat → Int32} {b a m e n n1 n2 : Nat} (h1 : a ≤ m) (h2 : m ≤ e) (s1 : seg ga gw b a m n n1) (s2 : seg ga gw b m e n1 n2) : seg ga gw b a e n n2 := by
  obtain ⟨H1, a1, a2, a3⟩ := s1
  obtain ⟨H2, b1, b2, b3⟩ := s2
  refine ⟨fun k => if k < m then H1 k else H2 k, ?_, ?_, fun k k1 k2 => ?_⟩
  · show (if a < m then H1 a else H2 a) = n
    by_cases q : a < m
    · rw [if_pos q]; exact a1
    · have : a = m := by omega
      subst this
      rw [if_neg q, b1, ← a2, a1]
  · show (if e < m then H1 e else H2 e) = n2
    rw [if_neg (by omega)]; exact b2
  · show stp _ _ (if k < m then H1 k else H2 k) (if k + 1 < m then H1 (k + 1) else H2 (k + 1))
    by_cases q : k + 1 < m
    · rw [if_pos (by omega), if_pos q]; exact a3 k k1 (by omega)
    · by_cases q2 : k < m
      · have : k + 1 = m := by omega
        rw [if_pos q2, if_neg q]
        have := a3 k k1 q2
        rw [‹k + 1 = m›] at this ⊢
        rw [b1, ← a2]
        exact this
      · rw [if_neg q2, if_neg q]; exact b3 k (by omega) k2
theorem seg_congr {ga gw ga' gw' : Nat → Int32} {b a e n n' : Nat} (h : ∀ k, a ≤ k → k < e → ga' (b + k) = ga (b + k) ∧ gw' (b + k) = gw (b + k)) (s : seg ga gw b a e n n') : seg ga' gw' b a e n n' := by
  obtain ⟨H, a1, a2, a3⟩ := s
  exact ⟨H, a1, a2, fun k k1 k2 => by rw [(h k k1 k2).1, (h k k1 k2).2]; exact a3 k k1 k2⟩
theorem seg_one {ga gw : Nat → Int32} {b a n n' : Nat} (s : stp (ga (b + a)) (gw (b + a)) n n') : seg ga gw b a (a + 1) n n' := ⟨fun k => if k = a then n else n', by show (if a = a then n else n') = n; rw [if_pos rfl], by show (if a + 1 = a then n else n') = n'; rw [if_neg (by omega)], fun k k1 k2 => by
  have : k = a := by omega
  subst this
  show stp _ _ (if k = k then n else n') (if k + 1 = k then n else n')
  rw [if_pos rfl, if_neg (by omega)]
  exact s⟩
theorem wfS_seg {ga gw : Nat → Int32} {t a e n : Nat} (h1 : a ≤ e) (h2 : e ≤ 170) (s : seg ga gw (170 * t) a e 0 n) : wfS ga gw t a e := by
  obtain ⟨H, a1, -, a3⟩ := s
  exact ⟨h1, h2, H, a1, fun k k1 k2 => a3 k k1 k2⟩
theorem wfS_congr {ga gw ga' gw' : Nat → Int32} {t a e : Nat} (h : ∀ k, k < 170 → ga' (170 * t + k) = ga (170 * t + k) ∧ gw' (170 * t + k) = gw (170 * t + k)) (s : wfS ga gw t a e) : wfS ga' gw' t a e := by
  obtain ⟨a1, a2, H, a3, a4⟩ := s
  refine ⟨a1, a2, H, a3, fun k k1 k2 => ?_⟩
  obtain ⟨e1, e2⟩ := h k (by omega)
  rw [e1, e2]
  exact a4 k k1 k2
theorem wft_congr {ga gw gt gl gm ga' gw' gt' gl' gm' : Nat → Int32} {x : Int32} (h1 : ∀ t : Nat, (t : Int) < x.toInt → ∀ k, k < 170 → ga' (170 * t + k) = ga (170 * t + k) ∧ gw' (170 * t + k) = gw (170 * t + k)) (h2 : ∀ t : Nat, (t : Int) < x.toInt → ∀ k, k < 90 → gt' (90 * t + k) = gt (90 * t + k) ∧ gl' (90 * t + k) = gl (90 * t + k)) (h3 : ∀ t : Nat, (t : Int) < x.toInt → gm' t = gm t) (s : wft ga gw gt gl gm x) : wft ga' gw' gt' gl' gm' x := by
  intro t ht
  obtain ⟨a1, a2, a3⟩ := s t ht
  rw [h3 t ht]
  refine ⟨a1, a2, fun i hi => ?_⟩
  obtain ⟨a, e, l, b1, b2, b3, b4, b5, b6⟩ := a3 i hi
  have q := h2 t ht i (by omega)
  refine ⟨a, e, l, b1, fun j hj => ?_, by rw [q.1]; exact b3, by rw [q.2]; exact b4, wfS_congr (h1 t ht) b5, wfS_congr (h1 t ht) b6⟩
  rw [(h2 t ht j (by omega)).2]
  exact b2 j hj
/-- a cell of the texts written at the row that is being made -/
theorem hI_txt {σ : List Nat} {h : aH} (I : dI σ h) {W : List (Nat × Nat)} {r n : Nat} (hW : cWn W r 0 = true) {fs : List Value} {x : Int32} {g : Nat → Int32} {j : Nat} {y : Int32} (hr : r = 122 ∧ n = 2890 ∨ r = 123 ∧ n = 2890 ∨ r = 120 ∧ n = 1530 ∨ r = 121 ∧ n = 1530 ∨ r = 119 ∧ n = 17) (c72 : h.1[72]? = some (.inr (12, fs))) (c55 : fs[55]? = some (.int x)) (c : h.1[r]? = some (.inl (0, n, .inl g)))
    (hj : (r = 122 ∨ r = 123 → ∀ t k : Nat, (t : Int) < x.toInt → k < 170 → 170 * t + k ≠ j) ∧ (r = 120 ∨ r = 121 → ∀ t k : Nat, (t : Int) < x.toInt → k < 90 → 90 * t + k ≠ j) ∧ (r = 119 → ∀ t : Nat, (t : Int) < x.toInt → t ≠ j)) :
    dI σ (h.1.set r (.inl (0, n, .inl (upd g j y))), h.2) ∧ dG W σ h σ (h.1.set r (.inl (0, n, .inl (upd g j y))), h.2) := by
  have tk : tkA r 0 n (-2147483648) 2147483647 = true := by
    rcases hr with ⟨rfl, rfl⟩ | ⟨rfl, rfl⟩ | ⟨rfl, rfl⟩ | ⟨rfl, rfl⟩ | ⟨rfl, rfl⟩ <;> decide +kernel
  obtain ⟨H1, G1⟩ := hS_a I.1 tk hW c (g' := upd g j y) (fun j _ => iR _)
  refine ⟨⟨H1, hJ2 I.2.1 fun q hq => set_ne' (by omega), ?_⟩, G1⟩
  obtain ⟨ga, gw, gt, gl, gm, fs', x', a1, a2, a3, a4, a5, a6, a7, a8⟩ := I.2.2
  cases c72.symm.trans a6
  cases c55.symm.trans a7
  obtain ⟨j1, j2, j3⟩ := hj
  rcases hr with ⟨rfl, rfl⟩ | ⟨rfl, rfl⟩ | ⟨rfl, rfl⟩ | ⟨rfl, rfl⟩ | ⟨rfl, rfl⟩
  · cases c.symm.trans a1
    exact ⟨upd g j y, gw, gt, gl, gm, fs, x, set_eq' c, (set_ne' (by decide)).trans a2, (set_ne' (by decide)).trans a3, (set_ne' (by decide)).trans a4, (set_ne' (by decide)).trans a5, (set_ne' (by decide)).trans a6, a7, wft_congr (fun t ht k hk => ⟨pk_un (j1 (Or.inl rfl) t k ht hk), rfl⟩) (fun _ _ _ _ => ⟨rfl, rfl⟩) (fun _ _ => rfl) a8⟩
  · cases c.symm.trans a2
    exact ⟨ga, upd g j y, gt, gl, gm, fs, x, (set_ne' (by decide)).trans a1, set_eq' c, (set_ne' (by decide)).trans a3, (set_ne' (by decide)).trans a4, (set_ne' (by decide)).trans a5, (set_ne' (by decide)).trans a6, a7, wft_congr (fun t ht k hk => ⟨rfl, pk_un (j1 (Or.inr rfl) t k ht hk)⟩) (fun _ _ _ _ => ⟨rfl, rfl⟩) (fun _ _ => rfl) a8⟩
  · cases c.symm.trans a3
    exact ⟨ga, gw, upd g j y, gl, gm, fs, x, (set_ne' (by decide)).trans a1, (set_ne' (by decide)).trans a2, set_eq' c, (set_ne' (by decide)).trans a4, (set_ne' (by decide)).trans a5, (set_ne' (by decide)).trans a6, a7, wft_congr (fun _ _ _ _ => ⟨rfl, rfl⟩) (fun t ht k hk => ⟨pk_un (j2 (Or.inl rfl) t k ht hk), rfl⟩) (fun _ _ => rfl) a8⟩
  · cases c.symm.trans a4
    exact ⟨ga, gw, gt, upd g j y, gm, fs, x, (set_ne' (by decide)).trans a1, (set_ne' (by decide)).trans a2, (set_ne' (by decide)).trans a3, set_eq' c, (set_ne' (by decide)).trans a5, (set_ne' (by decide)).trans a6, a7, wft_congr (fun _ _ _ _ => ⟨rfl, rfl⟩) (fun t ht k hk => ⟨rfl, pk_un (j2 (Or.inr rfl) t k ht hk)⟩) (fun _ _ => rfl) a8⟩
  · cases c.symm.trans a5
    exact ⟨ga, gw, gt, gl, upd g j y, fs, x, (set_ne' (by decide)).trans a1, (set_ne' (by decide)).trans a2, (set_ne' (by decide)).trans a3, (set_ne' (by decide)).trans a4, set_eq' c, (set_ne' (by decide)).trans a6, a7, wft_congr (fun _ _ _ _ => ⟨rfl, rfl⟩) (fun _ _ _ _ => ⟨rfl, rfl⟩) (fun t ht => pk_un (j3 rfl t ht)) a8⟩
/-- the parser's state -/
def PS (σ : List Nat) (h : aH) (hr ft op rw ld tp : Int32) (ga gw gT : Nat → Int32) : Prop := dI σ h ∧ (∃ fs : List Value, h.1[72]? = some (.inr (12, fs)) ∧ fs[64]? = some (.int hr) ∧ fs[65]? = some (.int ft) ∧ fs[66]? = some (.int op) ∧ fs[67]? = some (.int rw) ∧ fs[68]? = some (.int ld) ∧ fs[54]? = some (.int tp) ∧ fs[55]? = some (.int rw)) ∧ h.1[122]? = some (.inl (0, 2890, .inl ga)) ∧ h.1[123]? = some (.inl (0, 2890, .inl gw)) ∧ h.1[115]? = some (.inl (3, 160, .inl gT)) ∧ 0 ≤ rw.toInt ∧ rw.toInt ≤ 15 ∧ 0 ≤ hr.toInt ∧ hr.toInt ≤ tp.toInt ∧ tp.toInt ≤ 160 ∧ 0 ≤ ld.toInt ∧ 0 ≤ op.toInt ∧ op.toInt ≤ 8 ∧ -1 ≤ ft.toInt ∧ ft.toInt ≤ 160
theorem PS_fld {σ : List Nat} {h h2 : aH} {hr ft op rw ld tp x : Int32} {ga gw gT : Nat → Int32} {b : Nat} {fs fs2 : List Value} (P : PS σ h hr ft op rw ld tp ga gw gT) (c : h.1[72]? = some (.inr (12, fs))) (I2 : dI σ h2) (c2 : h2.1[72]? = some (.inr (12, fs2))) (hx : fs2[b]? = some (.int x)) (nf : ∀ i, b ≠ i → fs2[i]? = fs[i]?) (ne : ∀ q, 72 ≠ q → h2.1[q]? = h.1[q]?) :
    (b = 64 → 0 ≤ x.toInt → x.toInt ≤ tp.toInt → PS σ h2 x ft op rw ld tp ga gw gT) ∧ (b = 65 → -1 ≤ x.toInt → x.toInt ≤ 160 → PS σ h2 hr x op rw ld tp ga gw gT) ∧ (b = 66 → 0 ≤ x.toInt → x.toInt ≤ 8 → PS σ h2 hr ft x rw ld tp ga gw gT) ∧ (b = 68 → 0 ≤ x.toInt → PS σ h2 hr ft op rw x tp ga gw gT) := by
  obtain ⟨-, ⟨fs', d, f1, f2, f3, f4, f5, f6, f7⟩, q1, q2, q3, q4, q5, q6, q7, q8, q9, q10, q11, q12, q13⟩ := P
  cases c.symm.trans d
  have r1 := (ne 122 (by decide)).trans q1
  have r2 := (ne 123 (by decide)).trans q2
  have r3 := (ne 115 (by decide)).trans q3
  refine ⟨?_, ?_, ?_, ?_⟩
  · rintro rfl x0 x1
    exact ⟨I2, ⟨fs2, c2, hx, (nf 65 (by decide)).trans f2, (nf 66 (by decide)).trans f3, (nf 67 (by decide)).trans f4, (nf 68 (by decide)).trans f5, (nf 54 (by decide)).trans f6, (nf 55 (by decide)).trans f7⟩, r1, r2, r3, q4, q5, x0, x1, q8, q9, q10, q11, q12, q13⟩
  · rintro rfl x0 x1
    exact ⟨I2, ⟨fs2, c2, (nf 64 (by decide)).trans f1, hx, (nf 66 (by decide)).trans f3, (nf 67 (by decide)).trans f4, (nf 68 (by decide)).trans f5, (nf 54 (by decide)).trans f6, (nf 55 (by decide)).trans f7⟩, r1, r2, r3, q4, q5, q6, q7, q8, q9, q10, q11, x0, x1⟩
  · rintro rfl x0 x1
    exact ⟨I2, ⟨fs2, c2, (nf 64 (by decide)).trans f1, (nf 65 (by decide)).trans f2, hx, (nf 67 (by decide)).trans f4, (nf 68 (by decide)).trans f5, (nf 54 (by decide)).trans f6, (nf 55 (by decide)).trans f7⟩, r1, r2, r3, q4, q5, q6, q7, q8, q9, x0, x1, q12, q13⟩
  · rintro rfl x0
    exact ⟨I2, ⟨fs2, c2, (nf 64 (by decide)).trans f1, (nf 65 (by decide)).trans f2, (nf 66 (by decide)).trans f3, (nf 67 (by decide)).trans f4, hx, (nf 54 (by decide)).trans f6, (nf 55 (by decide)).trans f7⟩, r1, r2, r3, q4, q5, q6, q7, q8, x0, q10, q11, q12, q13⟩
def lkv (hr tp : Int32) (gT : Nat → Int32) : Int32 := if hr.toInt < tp.toInt then gT hr.toInt.toNat else -1
theorem lkv_lt {hr tp : Int32} {gT : Nat → Int32} (h : (lkv hr tp gT).toInt ≠ -1) : hr.toInt < tp.toInt := by
  unfold lkv at h
  split at h
  · assumption
  · exact absurd (show ((-1 : Int32)).toInt = -1 by decide) h
theorem look_wp {X : aX} {σ : List Nat} {h : aH} {hr ft op rw ld tp : Int32} {ga gw gT : Nat → Int32} (P : PS σ h hr ft op rw ld tp ga gw gT) {D : Nat} : Wp X D zM251 (fun v h' => h = h' ∧ v = some (.int (lkv hr tp gT))) 0 [some (.ref 72)] [] h := by
  have P0 := P
  obtain ⟨I, ⟨fs, c72, F64, F65, F66, F67, F68, F54, F55⟩, c122, c123, cT, q4, q5, q6, q7, q8, q9, q10, q11, q12, q13⟩ := P
  refine wp1 (fun n d => r_aloadn f251_0 rfl) ?_
  refine w_get f251_1 c72 F64 ?_
  refine wp1 (fun n d => r_aloadn f251_4 rfl) ?_
  refine w_get f251_5 c72 F54 ?_
  refine w_icmp_ge f251_8 (fun e => ?_) (fun e => ?_)
  · refine w_iconst f251_23 (fun v23 hv23 => ?_)
    refine wp_end (fun n d => r_ireturn f251_24 rfl) ⟨rfl, ?_⟩
    unfold lkv
    rw [if_neg (by omega), b_i.mpr (show v23.toInt = ((-1 : Int32)).toInt by rw [hv23]; decide)]
  · refine wp1 (fun n d => r_aloadn f251_11 rfl) ?_
    have F1001 := hI_r I c72 (f := 53) (q := 115) (by decide +kernel)
    refine w_get f251_12 c72 F1001 ?_
    refine wp1 (fun n d => r_aloadn f251_15 rfl) ?_
    refine w_get f251_16 c72 F64 ?_
    refine w_bald f251_19 cT (by omega) (by omega) (fun v19 hv19 => ?_)
    refine wp1 (fun n d => r_goto f251_20) ?_
    refine wp_end (fun n d => r_ireturn f251_24 rfl) ⟨rfl, ?_⟩
    unfold lkv
    rw [if_pos (by omega), hv19]
theorem wrong_wp {X : aX} {σ : List Nat} {h : aH} {hr ft op rw ld tp : Int32} {ga gw gT : Nat → Int32} (P : PS σ h hr ft op rw ld tp ga gw gT) {D : Nat} : Wp X D zM252 (fun v h' => v = none ∧ dG lWP σ h σ h' ∧ ∃ ft' : Int32, 0 ≤ ft'.toInt ∧ PS σ h' hr ft' op rw ld tp ga gw gT) 0 [some (.ref 72)] [] h := by
  have P0 := P
  obtain ⟨I, ⟨fs, c72, F64, F65, F66, F67, F68, F54, F55⟩, c122, c123, cT, q4, q5, q6, q7, q8, q9, q10, q11, q12, q13⟩ := P
  refine wp1 (fun n d => r_aloadn f252_0 rfl) ?_
  refine w_get f252_1 c72 F65 ?_
  refine w_if_ge f252_4 (fun e => wp_end (fun n d => r_vreturn f252_15 rfl) ⟨rfl, dG_refl _ _ _, ft, e, P0⟩) (fun e => ?_)
  refine wp1 (fun n d => r_aloadn f252_7 rfl) ?_
  refine wp1 (fun n d => r_aloadn f252_8 rfl) ?_
  refine w_get f252_9 c72 F64 ?_
  refine w_putI f252_12 c72 I (W := lWP) (lo := (-1)) (hi := 160) (by decide +kernel) (by decide) (by decide) (by omega) (by omega) (by decide) (by first | rfl | (simp [aok, zY])) (fun h1001 fs1001 I1001 G1001 c1001 Fx1001 nf1001 ne1001 => ?_)
  have c1002 := (ne1001 122 (by decide)).trans c122
  have c1003 := (ne1001 123 (by decide)).trans c123
  have c1004 := (ne1001 115 (by decide)).trans cT
  have F1005 := (nf1001 64 (by decide)).trans F64
  have F1006 := (nf1001 66 (by decide)).trans F66
  have F1007 := (nf1001 67 (by decide)).trans F67
  have F1008 := (nf1001 68 (by decide)).trans F68
  have F1009 := (nf1001 54 (by decide)).trans F54
  have F1010 := (nf1001 55 (by decide)).trans F55
  exact wp_end (fun n d => r_vreturn f252_15 rfl) ⟨rfl, G1001, hr, q6, (PS_fld P0 c72 I1001 c1001 Fx1001 nf1001 ne1001).2.1 rfl (by omega) (by omega)⟩
theorem lay_wp {X : aX} {σ : List Nat} {h : aH} {hr ft op rw ld tp : Int32} {ga gw gT : Nat → Int32} (P : PS σ h hr ft op rw ld tp ga gw gT) {D : Nat} {x1 x2 : Int32} (hl : ld.toInt ≤ 169) : Wp X D zM253 (fun v h' => v = none ∧ dG lWP σ h σ h' ∧ ∃ ld' : Int32, ld'.toInt = ld.toInt + 1 ∧ PS σ h' hr ft op rw ld' tp (upd ga (170 * rw.toInt.toNat + ld.toInt.toNat) x1) (upd gw (170 * rw.toInt.toNat + ld.toInt.toNat) x2) gT) 0 [some (.ref 72), some (.int x1), some (.int x2)] [] h := by
  have P0 := P
  obtain ⟨I, ⟨fs, c72, F64, F65, F66, F67, F68, F54, F55⟩, c122, c123, cT, q4, q5, q6, q7, q8, q9, q10, q11, q12, q13⟩ := P
  refine wp1 (fun n d => r_aloadn f253_0 rfl) ?_
  have F1001 := hI_r I c72 (f := 62) (q := 122) (by decide +kernel)
  refine w_get f253_1 c72 F1001 ?_
  refine w_sipush f253_4 (fun v4 hv4 => ?_)
  refine wp1 (fun n d => r_aloadn f253_7 rfl) ?_
  refine w_get f253_8 c72 F67 ?_
  refine w_imul f253_11 (by rw [hv4]; omega) (by rw [hv4]; omega) (fun v11 hv11 => ?_)
  rw [hv4] at hv11
  refine wp1 (fun n d => r_aloadn f253_12 rfl) ?_
  refine w_get f253_13 c72 F68 ?_
  refine w_iadd f253_16 (by omega) (by omega) (fun v16 hv16 => ?_)
  refine wp1 (fun n d => r_iloadn f253_17 rfl) ?_
  obtain ⟨Ia, Ga⟩ := hI_txt I (W := lWP) (by decide) (r := 122) (n := 2890) (j := v16.toInt.toNat) (y := x1) (by omega) c72 F55 c122 ⟨fun _ t k ht hk => by omega, fun _ t k ht hk => by omega, fun e => by omega⟩
  refine w_iast f253_18 c122 (by omega) (by omega) ?_
  have c72a : ((h.1.set 122 (.inl (0, 2890, .inl (upd ga v16.toInt.toNat x1))), h.2) : aH).1[72]? = some (.inr (12, fs)) := (set_ne' (by decide)).trans c72
  have c122a : ((h.1.set 122 (.inl (0, 2890, .inl (upd ga v16.toInt.toNat x1))), h.2) : aH).1[122]? = some (.inl (0, 2890, .inl (upd ga v16.toInt.toNat x1))) := set_eq' c122
  have c123a : ((h.1.set 122 (.inl (0, 2890, .inl (upd ga v16.toInt.toNat x1))), h.2) : aH).1[123]? = some (.inl (0, 2890, .inl gw)) := (set_ne' (by decide)).trans c123
  have cTa : ((h.1.set 122 (.inl (0, 2890, .inl (upd ga v16.toInt.toNat x1))), h.2) : aH).1[115]? = some (.inl (3, 160, .inl gT)) := (set_ne' (by decide)).trans cT
  generalize ((h.1.set 122 (.inl (0, 2890, .inl (upd ga v16.toInt.toNat x1))), h.2) : aH) = ha at Ia Ga c72a c122a c123a cTa ⊢
  refine wp1 (fun n d => r_aloadn f253_19 rfl) ?_
  have F1002 := hI_r Ia c72a (f := 63) (q := 123) (by decide +kernel)
  refine w_get f253_20 c72a F1002 ?_
  refine w_sipush f253_23 (fun v23 hv23 => ?_)
  refine wp1 (fun n d => r_aloadn f253_26 rfl) ?_
  refine w_get f253_27 c72a F67 ?_
  refine w_imul f253_30 (by rw [hv23]; omega) (by rw [hv23]; omega) (fun v30 hv30 => ?_)
  rw [hv23] at hv30
  refine wp1 (fun n d => r_aloadn f253_31 rfl) ?_
  refine w_get f253_32 c72a F68 ?_
  refine w_iadd f253_35 (by omega) (by omega) (fun v35 hv35 => ?_)
  refine wp1 (fun n d => r_iloadn f253_36 rfl) ?_
  obtain ⟨Ib, Gb⟩ := hI_txt Ia (W := lWP) (by decide) (r := 123) (n := 2890) (j := v35.toInt.toNat) (y := x2) (by omega) c72a F55 c123a ⟨fun _ t k ht hk => by omega, fun _ t k ht hk => by omega, fun e => by omega⟩
  refine w_iast f253_37 c123a (by omega) (by omega) ?_
  have c72b : ((ha.1.set 123 (.inl (0, 2890, .inl (upd gw v35.toInt.toNat x2))), ha.2) : aH).1[72]? = some (.inr (12, fs)) := (set_ne' (by decide)).trans c72a
  have c122b : ((ha.1.set 123 (.inl (0, 2890, .inl (upd gw v35.toInt.toNat x2))), ha.2) : aH).1[122]? = some (.inl (0, 2890, .inl (upd ga v16.toInt.toNat x1))) := (set_ne' (by decide)).trans c122a
  have c123b : ((ha.1.set 123 (.inl (0, 2890, .inl (upd gw v35.toInt.toNat x2))), ha.2) : aH).1[123]? = some (.inl (0, 2890, .inl (upd gw v35.toInt.toNat x2))) := set_eq' c123a
  have cTb : ((ha.1.set 123 (.inl (0, 2890, .inl (upd gw v35.toInt.toNat x2))), ha.2) : aH).1[115]? = some (.inl (3, 160, .inl gT)) := (set_ne' (by decide)).trans cTa
  generalize ((ha.1.set 123 (.inl (0, 2890, .inl (upd gw v35.toInt.toNat x2))), ha.2) : aH) = hb at Ib Gb c72b c122b c123b cTb ⊢
  have e16 : v16.toInt.toNat = 170 * rw.toInt.toNat + ld.toInt.toNat := by omega
  have e35 : v35.toInt.toNat = 170 * rw.toInt.toNat + ld.toInt.toNat := by omega
  rw [e16] at c122b
  rw [e35] at c123b
  have Pb : PS σ hb hr ft op rw ld tp (upd ga (170 * rw.toInt.toNat + ld.toInt.toNat) x1) (upd gw (170 * rw.toInt.toNat + ld.toInt.toNat) x2) gT := ⟨Ib, ⟨fs, c72b, F64, F65, F66, F67, F68, F54, F55⟩, c122b, c123b, cTb, q4, q5, q6, q7, q8, q9, q10, q11, q12, q13⟩
  refine wp1 (fun n d => r_aloadn f253_38 rfl) ?_
  refine wp1 (fun n d => r_dup f253_39 rfl) ?_
  refine w_get f253_40 c72b F68 ?_
  refine w_iconst f253_43 (fun v43 hv43 => ?_)
  refine w_iadd f253_44 (by omega) (by omega) (fun v44 hv44 => ?_)
  refine w_putI f253_45 c72b Ib (W := lWP) (lo := 0) (hi := 170) (by decide +kernel) (by decide) (by decide) (by omega) (by omega) (by decide) (by first | rfl | (simp [aok, zY])) (fun h1003 fs1003 I1003 G1003 c1003 Fx1003 nf1003 ne1003 => ?_)
  have F1004 := (nf1003 64 (by decide)).trans F64
  have F1005 := (nf1003 65 (by decide)).trans F65
  have F1006 := (nf1003 66 (by decide)).trans F66
  have F1007 := (nf1003 67 (by decide)).trans F67
  have F1008 := (nf1003 54 (by decide)).trans F54
  have F1009 := (nf1003 55 (by decide)).trans F55
  have F1010 := (nf1003 62 (by decide)).trans F1001
  have F1011 := (nf1003 63 (by decide)).trans F1002
  exact wp_end (fun n d => r_vreturn f253_48 rfl) ⟨rfl, dG_trans (dG_trans Ga Gb) G1003, v44, hv44.trans (by omega), (PS_fld Pb c72b I1003 c1003 Fx1003 nf1003 ne1003).2.2.2 rfl (by omega)⟩
theorem opens_wp {X : aX} {σ : List Nat} {h : aH} {hr ft op rw ld tp : Int32} {ga gw gT : Nat → Int32} (P : PS σ h hr ft op rw ld tp ga gw gT) {D : Nat} (hD : 1 ≤ D) (ht : hr.toInt < tp.toInt) : Wp X D zM254 (fun v h' => dG lWP σ h σ h' ∧ ((∃ r ft' : Int32, v = some (.int r) ∧ r.toInt = 0 ∧ 0 ≤ ft'.toInt ∧ PS σ h' hr ft' op rw ld tp ga gw gT) ∨ (∃ r hr' op' : Int32, v = some (.int r) ∧ r.toInt = 1 ∧ hr'.toInt = hr.toInt + 1 ∧ op'.toInt = op.toInt + 1 ∧ op.toInt < 8 ∧ PS σ h' hr' ft op' rw ld tp ga gw gT))) 0 [some (.ref 72)] [] h := by
  have P0 := P
  obtain ⟨I, ⟨fs, c72, F64, F65, F66, F67, F68, F54, F55⟩, c122, c123, cT, q4, q5, q6, q7, q8, q9, q10, q11, q12, q13⟩ := P
  refine wp1 (fun n d => r_aloadn f254_0 rfl) ?_
  refine w_get f254_1 c72 F66 ?_
  refine w_bipush f254_4 (fun v4 hv4 => ?_)
  refine w_icmp_ne f254_6 (fun e => ?_) (fun e => ?_)
  rotate_left
  · refine wp1 (fun n d => r_aloadn f254_9 rfl) ?_
    refine wp_in (lv := 0) (Y := zM252) (wrong_wp P0) (fun n d v h' e => r_virt (as := []) (r := []) f254_10 c72 (show zmt[252]? = some zM252 from rfl) rfl rfl rfl rfl rfl rfl e) (by omega) ?_
    rintro v h1 ⟨rfl, G1, ft', f0, P1⟩
    refine w_iconst f254_13 (fun v13 hv13 => ?_)
    exact wp_end (fun n d => r_zreturn f254_14 rfl (Or.inl (b_i.mpr hv13))) ⟨G1, Or.inl ⟨v13, ft', rfl, hv13, f0, P1⟩⟩
  refine wp1 (fun n d => r_aloadn f254_15 rfl) ?_
  refine wp1 (fun n d => r_dup f254_16 rfl) ?_
  refine w_get f254_17 c72 F66 ?_
  refine w_iconst f254_20 (fun v20 hv20 => ?_)
  refine w_iadd f254_21 (by omega) (by omega) (fun v21 hv21 => ?_)
  refine w_putI f254_22 c72 I (W := lWP) (lo := 0) (hi := 8) (by decide +kernel) (by decide) (by decide) (by omega) (by omega) (by decide) (by first | rfl | (simp [aok, zY])) (fun h1001 fs1001 I1001 G1001 c1001 Fx1001 nf1001 ne1001 => ?_)
  have c1002 := (ne1001 122 (by decide)).trans c122
  have c1003 := (ne1001 123 (by decide)).trans c123
  have c1004 := (ne1001 115 (by decide)).trans cT
  have F1005 := (nf1001 64 (by decide)).trans F64
  have F1006 := (nf1001 65 (by decide)).trans F65
  have F1007 := (nf1001 67 (by decide)).trans F67
  have F1008 := (nf1001 68 (by decide)).trans F68
  have F1009 := (nf1001 54 (by decide)).trans F54
  have F1010 := (nf1001 55 (by decide)).trans F55
  have Pa := (PS_fld P0 c72 I1001 c1001 Fx1001 nf1001 ne1001).2.2.1 rfl (by omega) (by omega)
  refine wp1 (fun n d => r_aloadn f254_25 rfl) ?_
  refine wp1 (fun n d => r_dup f254_26 rfl) ?_
  refine w_get f254_27 c1001 F1005 ?_
  refine w_iconst f254_30 (fun v30 hv30 => ?_)
  refine w_iadd f254_31 (by omega) (by omega) (fun v31 hv31 => ?_)
  refine w_putI f254_32 c1001 I1001 (W := lWP) (lo := 0) (hi := 160) (by decide +kernel) (by decide) (by decide) (by omega) (by omega) (by decide) (by first | rfl | (simp [aok, zY])) (fun h1011 fs1011 I1011 G1011 c1011 Fx1011 nf1011 ne1011 => ?_)
  have c1012 := (ne1011 122 (by decide)).trans c1002
  have c1013 := (ne1011 123 (by decide)).trans c1003
  have c1014 := (ne1011 115 (by decide)).trans c1004
  have F1015 := (nf1011 65 (by decide)).trans F1006
  have F1016 := (nf1011 66 (by decide)).trans Fx1001
  have F1017 := (nf1011 67 (by decide)).trans F1007
  have F1018 := (nf1011 68 (by decide)).trans F1008
  have F1019 := (nf1011 54 (by decide)).trans F1009
  have F1020 := (nf1011 55 (by decide)).trans F1010
  have Pb := (PS_fld Pa c1001 I1011 c1011 Fx1011 nf1011 ne1011).1 rfl (by omega) (by omega)
  refine w_iconst f254_35 (fun v35 hv35 => ?_)
  exact wp_end (fun n d => r_zreturn f254_36 rfl (Or.inr (b_i.mpr hv35))) ⟨(dG_trans G1001 G1011), Or.inr ⟨v35, v31, v21, rfl, hv35, by omega, by omega, by omega, Pb⟩⟩
theorem w_here {X : aX} {σ : List Nat} {h : aH} {hr ft op rw ld tp : Int32} {ga gw gT : Nat → Int32} (P : PS σ h hr ft op rw ld tp ga gw gT) {D : Nat} {M : aM} {Q : Option Value → aH → Prop} {pc i1 i2 : Nat} {L : aL} {r : List Value} (ht : hr.toInt < tp.toInt) (hL : aG L 0 = some (.ref 72)) (f0 : aF pc M.2.2.2.2.2.2.2 = some (pc, (.aload_n 0), 1, 0, 0)) (f1 : aF (pc + 1) M.2.2.2.2.2.2.2 = some (pc + 1, .dup, 1, 0, 0)) (f2 : aF (pc + 2) M.2.2.2.2.2.2.2 = some (pc + 2, (.getfield i1), 3, 12, 64)) (f3 : aF (pc + 5) M.2.2.2.2.2.2.2 = some (pc + 5, (.iconst 1), 1, 0, 0)) (f4 : aF (pc + 6) M.2.2.2.2.2.2.2 = some (pc + 6, .iadd, 1, 0, 0)) (f5 : aF (pc + 7) M.2.2.2.2.2.2.2 = some (pc + 7, (.putfield i2), 3, 12, 64))
    (kk : ∀ (h2 : aH) (hr2 : Int32), hr2.toInt = hr.toInt + 1 → dG lWP σ h σ h2 → PS σ h2 hr2 ft op rw ld tp ga gw gT → Wp X D M Q (pc + 10) L r h2) : Wp X D M Q pc L r h := by
  have P0 := P
  obtain ⟨I, ⟨fs, c72, F64, F65, F66, F67, F68, F54, F55⟩, c122, c123, cT, q4, q5, q6, q7, q8, q9, q10, q11, q12, q13⟩ := P
  refine wp1 (fun n d => r_aloadn f0 hL) ?_
  refine wp1 (fun n d => r_dup f1 rfl) ?_
  refine w_get f2 c72 F64 ?_
  refine w_iconst f3 (fun v hv => ?_)
  refine w_iadd f4 (by omega) (by omega) (fun z hz => ?_)
  refine w_putI f5 c72 I (W := lWP) (lo := 0) (hi := 160) (by decide +kernel) (by decide) (by decide) (by omega) (by omega) (by decide) rfl (fun h2 fs2 I2 G2 c2 Fx nf ne => ?_)
  exact kk h2 z (by omega) G2 ((PS_fld P0 c72 I2 c2 Fx nf ne).1 rfl (by omega) (by omega))
theorem w_opdec {X : aX} {σ : List Nat} {h : aH} {hr ft op rw ld tp : Int32} {ga gw gT : Nat → Int32} (P : PS σ h hr ft op rw ld tp ga gw gT) {D : Nat} {M : aM} {Q : Option Value → aH → Prop} {pc i1 i2 : Nat} {L : aL} {r : List Value} (ho : 1 ≤ op.toInt) (hL : aG L 0 = some (.ref 72)) (f0 : aF pc M.2.2.2.2.2.2.2 = some (pc, (.aload_n 0), 1, 0, 0)) (f1 : aF (pc + 1) M.2.2.2.2.2.2.2 = some (pc + 1, .dup, 1, 0, 0)) (f2 : aF (pc + 2) M.2.2.2.2.2.2.2 = some (pc + 2, (.getfield i1), 3, 12, 66)) (f3 : aF (pc + 5) M.2.2.2.2.2.2.2 = some (pc + 5, (.iconst 1), 1, 0, 0)) (f4 : aF (pc + 6) M.2.2.2.2.2.2.2 = some (pc + 6, .isub, 1, 0, 0)) (f5 : aF (pc + 7) M.2.2.2.2.2.2.2 = some (pc + 7, (.putfield i2), 3, 12, 66))
    (kk : ∀ (h2 : aH) (op2 : Int32), op2.toInt = op.toInt - 1 → dG lWP σ h σ h2 → PS σ h2 hr ft op2 rw ld tp ga gw gT → Wp X D M Q (pc + 10) L r h2) : Wp X D M Q pc L r h := by
  have P0 := P
  obtain ⟨I, ⟨fs, c72, F64, F65, F66, F67, F68, F54, F55⟩, c122, c123, cT, q4, q5, q6, q7, q8, q9, q10, q11, q12, q13⟩ := P
  refine wp1 (fun n d => r_aloadn f0 hL) ?_
  refine wp1 (fun n d => r_dup f1 rfl) ?_
  refine w_get f2 c72 F66 ?_
  refine w_iconst f3 (fun v hv => ?_)
  refine w_isub f4 (by omega) (by omega) (fun z hz => ?_)
  refine w_putI f5 c72 I (W := lWP) (lo := 0) (hi := 8) (by decide +kernel) (by decide) (by decide) (by omega) (by omega) (by decide) rfl (fun h2 fs2 I2 G2 c2 Fx nf ne => ?_)
  exact kk h2 z (by omega) G2 ((PS_fld P0 c72 I2 c2 Fx nf ne).2.2.1 rfl (by omega) (by omega))

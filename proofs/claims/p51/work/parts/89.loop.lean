-- ===== the law: its loop =====
theorem f333_18 : aF 18 zM333.2.2.2.2.2.2.2 = some (18, (.iload_n 3), 1, 0, 0) := by decide +kernel
theorem f333_19 : aF 19 zM333.2.2.2.2.2.2.2 = some (19, (.aload_n 0), 1, 0, 0) := by decide +kernel
theorem f333_20 : aF 20 zM333.2.2.2.2.2.2.2 = some (20, .arraylength, 1, 0, 0) := by decide +kernel
theorem f333_21 : aF 21 zM333.2.2.2.2.2.2.2 = some (21, (.bipush 6), 2, 0, 0) := by decide +kernel
theorem f333_23 : aF 23 zM333.2.2.2.2.2.2.2 = some (23, .isub, 1, 0, 0) := by decide +kernel
theorem f333_24 : aF 24 zM333.2.2.2.2.2.2.2 = some (24, (.if_icmp .gt 2057), 3, 2081, 0) := by decide +kernel
theorem f333_27 : aF 27 zM333.2.2.2.2.2.2.2 = some (27, (.aload_n 0), 1, 0, 0) := by decide +kernel
theorem f333_28 : aF 28 zM333.2.2.2.2.2.2.2 = some (28, (.iload_n 3), 1, 0, 0) := by decide +kernel
theorem f333_29 : aF 29 zM333.2.2.2.2.2.2.2 = some (29, .iaload, 1, 0, 0) := by decide +kernel
theorem f333_30 : aF 30 zM333.2.2.2.2.2.2.2 = some (30, (.bipush 63), 2, 0, 0) := by decide +kernel
theorem f333_32 : aF 32 zM333.2.2.2.2.2.2.2 = some (32, .iand, 1, 0, 0) := by decide +kernel
theorem f333_33 : aF 33 zM333.2.2.2.2.2.2.2 = some (33, (.tableswitch 2042 0 50 #[219, 242, 255, 288, 321, 334, 347, 380, 403, 436, 479, 502, 545, 588, 631, 664, 707, 770, 823, 856, 899, 952, 975, 1018, 1051, 1084, 1127, 1180, 1233, 1266, 1289, 1332, 1355, 1378, 1401, 1444, 1467, 1510, 1533, 1566, 1599, 1622, 1675, 1718, 1741, 1774, 1817, 1890, 1923, 1986, 2019]), 219, 0, 0) := by decide +kernel
theorem f333_2075 : aF 2075 zM333.2.2.2.2.2.2.2 = some (2075, (.iinc 3 6), 3, 0, 0) := by decide +kernel
theorem f333_2078 : aF 2078 zM333.2.2.2.2.2.2.2 = some (2078, (.goto (-2060)), 3, 18, 0) := by decide +kernel
theorem f333_2081 : aF 2081 zM333.2.2.2.2.2.2.2 = some (2081, (.iconst 1), 1, 0, 0) := by decide +kernel
theorem f333_2082 : aF 2082 zM333.2.2.2.2.2.2.2 = some (2082, .ireturn, 1, 0, 0) := by decide +kernel
theorem law_loop {X : aX} (hX : X 0 = some (8, zab)) (G : hG X 302) {L : Nat} {xs : Nat → Int32} (hX1 : X 1 = some (L, xs)) (hL : L ≤ 3072) : ∀ (k : Nat) (i : Int32) (σ : List Nat) (h : aH), ((L : Int) - i.toInt).toNat < k → 0 ≤ i.toInt → i.toInt ≤ L → dI σ h → JX h → dPh h ≤ 97319 → Wp X 64 zM333 (fun v h' => v = some (.int 1) ∧ dPh h' ≤ 97319) 18 [some (.retAddr 1), some (.ref 0), some (.ref 72), some (.int i)] [] h := by
  intro k
  induction k with
  | zero => intro i σ h hk; omega
  | succ k ih =>
    intro i σ h hk i0 iL I J P
    have eL : (Int32.ofNat L).toInt = L := Int32.toInt_ofNat_of_lt (by omega)
    refine wp1 (fun n d => r_iloadn f333_18 rfl) ?_
    refine wp1 (fun n d => r_aloadnX f333_19 rfl) ?_
    refine wp1 (fun n d => r_xlen f333_20 hX1 rfl) ?_
    refine w_bipush f333_21 (fun six h6 => ?_)
    refine w_isub f333_23 (by omega) (by omega) (fun lim hlim => ?_)
    refine w_icmp_gt f333_24 (fun _ => ?_) (fun e24 => ?_)
    · refine w_iconst f333_2081 (fun v hv => ?_)
      refine wp_end (fun n d => r_zreturn f333_2082 rfl (Or.inr (b_i.mpr hv))) ⟨by rw [b_i.mpr (show v.toInt = ((1 : Int32)).toInt by rw [hv]; decide)], P⟩
    have i1 : i.toInt + 6 ≤ L := by omega
    have kq : ∀ (σ' : List Nat) (h' : aH), dI σ' h' → JX h' → dPh h' ≤ dPh h → Wp X 64 zM333 (fun v h' => v = some (.int 1) ∧ dPh h' ≤ 97319) 2075 [some (.retAddr 1), some (.ref 0), some (.ref 72), some (.int i)] [] h' := by
      intro σ' h' I' J' P'
      refine w_iinc f333_2075 rfl (by omega) (by omega) (fun v hv => ?_)
      show Wp _ _ _ _ 2078 [some (.retAddr 1), some (.ref 0), some (.ref 72), some (.int v)] [] _
      refine wp1 (fun n d => r_goto f333_2078) ?_
      exact ih v σ' h' (by omega) (by omega) (by omega) I' J' (Nat.le_trans P' P)
    refine wp1 (fun n d => r_aloadnX f333_27 rfl) ?_
    refine wp1 (fun n d => r_iloadn f333_28 rfl) ?_
    refine w_xld f333_29 hX1 (by omega) (by omega) (fun v29 _ => ?_)
    refine w_bipush f333_30 (fun v30 hv30 => ?_)
    refine w_iand f333_32 (by omega) (fun z _ _ _ => ?_)
    obtain ⟨o, ho, hk2⟩ := asw_pick (x := z) (d := 2042) [219, 242, 255, 288, 321, 334, 347, 380, 403, 436, 479, 502, 545, 588, 631, 664, 707, 770, 823, 856, 899, 952, 975, 1018, 1051, 1084, 1127, 1180, 1233, 1266, 1289, 1332, 1355, 1378, 1401, 1444, 1467, 1510, 1533, 1566, 1599, 1622, 1675, 1718, 1741, 1774, 1817, 1890, 1923, 1986, 2019] 0
    have go : Wp X 64 zM333 (fun v h' => v = some (.int 1) ∧ dPh h' ≤ 97319) (((33 : Nat) : Int) + o).toNat [some (.retAddr 1), some (.ref 0), some (.ref 72), some (.int i)] [] h := by
      simp only [List.mem_cons, List.not_mem_nil, or_false] at ho
      rcases ho with rfl | rfl | rfl | rfl | rfl | rfl | rfl | rfl | rfl | rfl | rfl | rfl | rfl | rfl | rfl | rfl | rfl | rfl | rfl | rfl | rfl | rfl | rfl | rfl | rfl | rfl | rfl | rfl | rfl | rfl | rfl | rfl | rfl | rfl | rfl | rfl | rfl | rfl | rfl | rfl | rfl | rfl | rfl | rfl | rfl | rfl | rfl | rfl | rfl | rfl | rfl | rfl
      · exact kq σ h I J (Nat.le_refl _)
      · exact lc_0 G hX hX1 hL i0 i1 I J kq
      · exact lc_1 G hX hX1 hL i0 i1 I J kq
      · exact lc_2 G hX hX1 hL i0 i1 I J kq
      · exact lc_3 G hX hX1 hL i0 i1 I J kq
      · exact lc_4 G hX hX1 hL i0 i1 I J kq
      · exact lc_5 G hX hX1 hL i0 i1 I J kq
      · exact lc_6 G hX hX1 hL i0 i1 I J kq
      · exact lc_7 G hX hX1 hL i0 i1 I J kq
      · exact lc_8 G hX hX1 hL i0 i1 I J kq
      · exact lc_9 G hX hX1 hL i0 i1 I J kq
      · exact lc_10 G hX hX1 hL i0 i1 I J kq
      · exact lc_11 G hX hX1 hL i0 i1 I J kq
      · exact lc_12 G hX hX1 hL i0 i1 I J kq
      · exact lc_13 G hX hX1 hL i0 i1 I J kq
      · exact lc_14 G hX hX1 hL i0 i1 I J kq
      · exact lc_15 G hX hX1 hL i0 i1 I J kq
      · exact lc_16 G hX hX1 hL i0 i1 I J kq
      · exact lc_17 G hX hX1 hL i0 i1 I J kq
      · exact lc_18 G hX hX1 hL i0 i1 I J kq
      · exact lc_19 G hX hX1 hL i0 i1 I J kq
      · exact lc_20 G hX hX1 hL i0 i1 I J kq
      · exact lc_21 G hX hX1 hL i0 i1 I J kq
      · exact lc_22 G hX hX1 hL i0 i1 I J kq
      · exact lc_23 G hX hX1 hL i0 i1 I J kq
      · exact lc_24 G hX hX1 hL i0 i1 I J kq
      · exact lc_25 G hX hX1 hL i0 i1 I J kq
      · exact lc_26 G hX hX1 hL i0 i1 I J kq
      · exact lc_27 G hX hX1 hL i0 i1 I J kq
      · exact lc_28 G hX hX1 hL i0 i1 I J kq
      · exact lc_29 G hX hX1 hL i0 i1 I J kq
      · exact lc_30 G hX hX1 hL i0 i1 I J kq
      · exact lc_31 G hX hX1 hL i0 i1 I J kq
      · exact lc_32 G hX hX1 hL i0 i1 I J kq
      · exact lc_33 G hX hX1 hL i0 i1 I J kq
      · exact lc_34 G hX hX1 hL i0 i1 I J kq
      · exact lc_35 G hX hX1 hL i0 i1 I J kq
      · exact lc_36 G hX hX1 hL i0 i1 I J kq
      · exact lc_37 G hX hX1 hL i0 i1 I J kq
      · exact lc_38 G hX hX1 hL i0 i1 I J kq
      · exact lc_39 G hX hX1 hL i0 i1 I J kq
      · exact lc_40 G hX hX1 hL i0 i1 I J kq
      · exact lc_41 G hX hX1 hL i0 i1 I J kq
      · exact lc_42 G hX hX1 hL i0 i1 I J kq
      · exact lc_43 G hX hX1 hL i0 i1 I J kq
      · exact lc_44 G hX hX1 hL i0 i1 I J kq
      · exact lc_45 G hX hX1 hL i0 i1 I J kq
      · exact lc_46 G hX hX1 hL i0 i1 I J kq
      · exact lc_47 G hX hX1 hL i0 i1 I J kq
      · exact lc_48 G hX hX1 hL i0 i1 I J kq
      · exact lc_49 G hX hX1 hL i0 i1 I J kq
      · exact lc_50 G hX hX1 hL i0 i1 I J kq
    exact wp1 (fun n d => (r_tsw f333_33).trans (hk2 _)) go
theorem zJ0 : JX zH0 := ⟨⟨⟨zF1, zF72, 0, 0, 0, zh1, rfl, rfl, rfl, by decide, zh72, rfl⟩, zJR0⟩, zJRing0, zJBody0, zJShelf0⟩
theorem law_run {L : Nat} (hL : L ≤ 3072) (xs : Nat → Int32) : ∃ (n d : Nat) (h' : aH), arun (zX L xs) n d zM333 18 [some (.retAddr 1), some (.ref 0), some (.ref 72), some (.int 0)] [] zH0 = some (some (.int 1), h') ∧ h'.1.length ≤ 600000 ∧ h'.2 ≤ 7302250 ∧ d ≤ 2048 := by
  obtain ⟨N, v, h', ⟨rfl, hp⟩, hr⟩ := law_loop (X := zX L xs) rfl (all_good rfl) rfl hL _ 0 zs0 zH0 (Nat.lt_succ_self _) (by decide) (by show ((0 : Int32)).toInt ≤ _; rw [show ((0 : Int32)).toInt = 0 by decide]; omega) zDI0 zJ0 (Nat.le_of_eq zPh0)
  have := hr 0 0
  refine ⟨_, _, h', this, ?_, ?_, by decide⟩
  · unfold dPh at hp; omega
  · unfold dPh at hp; omega

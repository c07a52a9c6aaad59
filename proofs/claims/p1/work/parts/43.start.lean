-- ===== the law on every script of at most six ints =====
theorem law_run {L : Nat} (hL : L ≤ 6) (xs : Nat → Int32) : ∃ (n d : Nat) (h' : aH), arun (zX L xs) n d zM333 18 [some (.retAddr 1), some (.ref 0), some (.ref 72), some (.int 0)] [] zH0 = some (some (.int 1), h') ∧ h'.1.length ≤ 600000 ∧ h'.2 ≤ 7302250 ∧ d ≤ 2048 := by
  have hX : (zX L xs) 1 = some (L, xs) := rfl
  rcases (show L = 0 ∨ L = 1 ∨ L = 2 ∨ L = 3 ∨ L = 4 ∨ L = 5 ∨ L = 6 by omega) with rfl | rfl | rfl | rfl | rfl | rfl | rfl
  · exact ⟨_, _, _, ls_0 hX 0 0, by rw [zH0_len]; decide, by decide, by decide⟩
  · exact ⟨_, _, _, ls_1 hX 0 0, by rw [zH0_len]; decide, by decide, by decide⟩
  · exact ⟨_, _, _, ls_2 hX 0 0, by rw [zH0_len]; decide, by decide, by decide⟩
  · exact ⟨_, _, _, ls_3 hX 0 0, by rw [zH0_len]; decide, by decide, by decide⟩
  · exact ⟨_, _, _, ls_4 hX 0 0, by rw [zH0_len]; decide, by decide, by decide⟩
  · exact ⟨_, _, _, ls_5 hX 0 0, by rw [zH0_len]; decide, by decide, by decide⟩
  · obtain ⟨j, hj, hk⟩ := pk_andE (xs 0) (m := 63) 6 (by decide)
    have go : (∃ h2 : aH, (∀ n d : Nat, arun (zX 6 xs) (n + 1002000) (d + 30) zM333 18 [some (.retAddr 1), some (.ref 0), some (.ref 72), some (.int 0)] [] zH0 = some (some (.int 1), h2)) ∧ h2.1.length ≤ 600000 ∧ h2.2 ≤ 7302250) := by
      match j, hj, hk with
      | 0, _, hk => exact lc_0 hX hk
      | 1, _, hk => exact lc_1 hX hk
      | 2, _, hk => exact lc_2 hX hk
      | 3, _, hk => exact lc_3 hX hk
      | 4, _, hk => exact lc_4 hX hk
      | 5, _, hk => exact lc_5 hX hk
      | 6, _, hk => exact lc_6 hX hk
      | 7, _, hk => exact lc_7 hX hk
      | 8, _, hk => exact lc_8 hX hk
      | 9, _, hk => exact lc_9 hX hk
      | 10, _, hk => exact lc_10 hX hk
      | 11, _, hk => exact lc_11 hX hk
      | 12, _, hk => exact lc_12 hX hk
      | 13, _, hk => exact lc_13 hX hk
      | 14, _, hk => exact lc_14 hX hk
      | 15, _, hk => exact lc_15 hX hk
      | 16, _, hk => exact lc_16 hX hk
      | 17, _, hk => exact lc_17 hX hk
      | 18, _, hk => exact lc_18 hX hk
      | 19, _, hk => exact lc_19 hX hk
      | 20, _, hk => exact lc_20 hX hk
      | 21, _, hk => exact lc_21 hX hk
      | 22, _, hk => exact lc_22 hX hk
      | 23, _, hk => exact lc_23 hX hk
      | 24, _, hk => exact lc_24 hX hk
      | 25, _, hk => exact lc_25 hX hk
      | 26, _, hk => exact lc_26 hX hk
      | 27, _, hk => exact lc_27 hX hk
      | 28, _, hk => exact lc_28 hX hk
      | 29, _, hk => exact lc_29 hX hk
      | 30, _, hk => exact lc_30 hX hk
      | 31, _, hk => exact lc_31 hX hk
      | 32, _, hk => exact lc_32 hX hk
      | 33, _, hk => exact lc_33 hX hk
      | 34, _, hk => exact lc_34 hX hk
      | 35, _, hk => exact lc_35 hX hk
      | 36, _, hk => exact lc_36 hX hk
      | 37, _, hk => exact lc_37 hX hk
      | 38, _, hk => exact lc_38 hX hk
      | 39, _, hk => exact lc_39 hX hk
      | 40, _, hk => exact lc_40 hX hk
      | 41, _, hk => exact lc_41 hX hk
      | 42, _, hk => exact lc_42 hX hk
      | 43, _, hk => exact lc_43 hX hk
      | 44, _, hk => exact lc_44 hX hk
      | 45, _, hk => exact lc_45 hX hk
      | 46, _, hk => exact lc_46 hX hk
      | 47, _, hk => exact lc_47 hX hk
      | 48, _, hk => exact lc_48 hX hk
      | 49, _, hk => exact lc_49 hX hk
      | 50, _, hk => exact lc_50 hX hk
      | 51, _, hk => exact lc_51 hX hk
      | 52, _, hk => exact lc_52 hX hk
      | 53, _, hk => exact lc_53 hX hk
      | 54, _, hk => exact lc_54 hX hk
      | 55, _, hk => exact lc_55 hX hk
      | 56, _, hk => exact lc_56 hX hk
      | 57, _, hk => exact lc_57 hX hk
      | 58, _, hk => exact lc_58 hX hk
      | 59, _, hk => exact lc_59 hX hk
      | 60, _, hk => exact lc_60 hX hk
      | 61, _, hk => exact lc_61 hX hk
      | 62, _, hk => exact lc_62 hX hk
      | 63, _, hk => exact lc_63 hX hk
      | j + 64, hj, _ => exact absurd hj (by omega)
    obtain ⟨h2, e, s1, s2⟩ := go
    exact ⟨_, _, h2, e 0 0, s1, s2, by decide⟩
/-- THE LAW, from its entry -/
theorem whole_start {p : Program} {e : Env} {s : State} {m : MethodId} {below : List Frame} {meth : Method} {c : Code} (l : Launch) (hflags : l.flags = flags0) {b L : Nat} {xs : Nat → Int32} (hL : L ≤ 6) (C0 : lw_At p s m meth c b L xs) : W p l e room_1 s m #[Value.ref b] below meth c s.heap [] 0 0 (lw_Z below #[Value.ref b] s) (entryFrame m ([Value.ref b] : List Value).toArray 4) := by
  obtain ⟨hx, hb, hr, hml, hown, hts, hX, hbl, hlocks, hgv⟩ := C0
  obtain ⟨D, cA, ea, hea, hKX⟩ := aKX_start hts hX hbl hgv
  obtain ⟨n, d, h', hrun, hs1, hs2, hd⟩ := law_run hL xs
  have C : aCF (p, l, e, room_1, s, m, #[Value.ref b], below, meth, c, lw_Z below #[Value.ref b] s, code, 4, s.heap.size, 0, 0, 13, 1, D, cA, ea, zX L xs) :=
    ⟨hx, hb, hml, hown, fun w h => hts w (zW_in w h), hKX, rfl, fun q => by cases q⟩
  have K18 := a_sim (zX L xs) n (p, l, e, room_1, s, m, #[Value.ref b], below, meth, c, lw_Z below #[Value.ref b] s, code, 4, s.heap.size, 0, 0, 13, 1, D, cA, ea, zX L xs) d zM333 18 _ [] zH0 _ h' rfl hrun ⟨zlw_ok, rfl, rfl⟩ C
    ⟨⟨by show h'.1.length ≤ 0 + 600000; omega, by show h'.2 ≤ 0 + 7302250; omega⟩, by show d ≤ 2048; omega, by show 41 * d ≤ 84000; omega⟩ (by
      intro pc L' st hret H locs ls cells slots e1 e2 hP hS hl
      have q1 : cells ≤ 600000 := by omega
      have q2 : slots ≤ 7302250 := by omega
      rcases hret with ⟨x, rfl, hv, hdg, -⟩ | ⟨x, rfl, hv, -, -⟩ | ⟨x, C, rfl, hv, -, -⟩ | ⟨rfl, hv, -, -⟩
      · cases hv
        refine va_forget (fun q hq => hS.2.2 q hq) ?_
        refine W.widen q1 q2 ?_
        exact lw_ret hx hb hr hlocks hdg
      · cases hv
      · cases hv
      · cases hv)
  have K0 := law_pre C K18
  have he : entryFrame m ([Value.ref b] : List Value).toArray 4 = F0 m 0 ((lg_sl [Value.ref b] ++ List.replicate (4 - (lg_sl [Value.ref b]).length) Slot.unset).toArray) [] := lg_entry_eq m [Value.ref b] 4
  rw [he]
  have hR := aE_R (b0 := s.heap.size) (ea := ea) (as := [.retAddr 1]) (n := 4) (by decide)
  have hq : ([Value.retAddr 1] : List Value).map (acv s.heap.size ea) = [Value.ref b] := by simp [acv, hea]
  rw [hq] at hR
  have hP0 : va_P D zCl (awd s.heap.size ea cA []) s.heap := fun k q h => by simp [awd] at h
  exact K0 s.heap [] _ 0 0 rfl rfl hP0 va_S.rf hR

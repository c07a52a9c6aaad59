-- ===== the law, from its entry =====
theorem whole_start {p : Program} {e : Env} {s : State} {m : MethodId} {below : List Frame} {meth : Method} {c : Code} (l : Launch) (hflags : l.flags = flags0) {b L : Nat} {xs : Nat → Int32} (hL : L ≤ 3072) (C0 : lw_At p s m meth c b L xs) : W p l e room_1 s m #[Value.ref b] below meth c s.heap [] 0 0 (lw_Z below #[Value.ref b] s) (entryFrame m ([Value.ref b] : List Value).toArray 4) := by
  obtain ⟨hx, hb, hr, hml, hown, hts, hX, hbl, hlocks, hgv⟩ := C0
  obtain ⟨D, cA, ea, hea, hKX⟩ := aKX_start hts hX hbl hgv
  obtain ⟨n, d, h', hrun, hs1, hs2, hd⟩ := law_run hL xs
  have C : aCF (p, l, e, room_1, s, m, #[Value.ref b], below, meth, c, lw_Z below #[Value.ref b] s, code, 4, s.heap.size, 0, 0, 13, 1, D, cA, ea, zX L xs) :=
    ⟨hx, hb, hml, hown, fun w h => hts w (zW_in w h), hKX, rfl, fun q => by cases q⟩
  have K18 := a_sim (zX L xs) n (p, l, e, room_1, s, m, #[Value.ref b], below, meth, c, lw_Z below #[Value.ref b] s, code, 4, s.heap.size, 0, 0, 13, 1, D, cA, ea, zX L xs) d zM333 18 _ [] zH0 _ h' rfl hrun ⟨zlw_ok, rfl, rfl⟩ C
    ⟨⟨by show h'.1.length ≤ 0 + 600000; omega, by show h'.2 ≤ 0 + 7302250; omega⟩, by show d ≤ 2048; omega, by show 41 * d ≤ 84000; omega⟩ (by
      intro pc L' st hret H locs ls cells slots e1 e2 hP hS hl
      have q1 : cells ≤ 600000 := by omega
      have q2 : slots ≤ 7302250 := by omega
      rcases hret with ⟨x, rfl, hv, hdg, -⟩ | ⟨x, rfl, hv, -, -⟩ | ⟨x, C, rfl, hv, -, -⟩ | ⟨rfl, hv, -, -⟩
      · cases hv
        refine va_forget (fun q hq => hS.2.2 q hq) ?_
        refine W.widen q1 q2 ?_
        exact lw_ret hx hb hr hlocks hdg
      · cases hv
      · cases hv
      · cases hv)
  have K0 := law_pre C K18
  have he : entryFrame m ([Value.ref b] : List Value).toArray 4 = F0 m 0 ((lg_sl [Value.ref b] ++ List.replicate (4 - (lg_sl [Value.ref b]).length) Slot.unset).toArray) [] := lg_entry_eq m [Value.ref b] 4
  rw [he]
  have hR := aE_R (b0 := s.heap.size) (ea := ea) (as := [.retAddr 1]) (n := 4) (by decide)
  have hq : ([Value.retAddr 1] : List Value).map (acv s.heap.size ea) = [Value.ref b] := by simp [acv, hea]
  rw [hq] at hR
  have hP0 : va_P D zCl (awd s.heap.size ea cA []) s.heap := fun k q h => by simp [awd] at h
  exact K0 s.heap [] _ 0 0 rfl rfl hP0 va_S.rf hR

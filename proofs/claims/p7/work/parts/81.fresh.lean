-- ===== the fresh heap is well typed =====
def zs0 : List Nat := List.range 146
theorem zs0_at {q r : Nat} (h : zs0[q]? = some r) : q = r ∧ q < 146 := by
  unfold zs0 at h
  have hq := (List.getElem?_eq_some_iff.mp h).1
  rw [List.length_range] at hq
  rw [List.getElem?_range hq] at h
  exact ⟨Option.some.inj h, hq⟩
theorem zs0_of {r : Nat} (h : r < 146) : zs0[r]? = some r := List.getElem?_range h
theorem c32 {lo hi : Int} {c : Int32} (h : (decide (lo ≤ c.toInt) && decide (c.toInt ≤ hi)) = true) : lo ≤ c.toInt ∧ c.toInt ≤ hi := by
  rw [Bool.and_eq_true, decide_eq_true_eq, decide_eq_true_eq] at h
  exact h
theorem c64 {lo hi : Int} {c : Int64} (h : (decide (lo ≤ c.toInt) && decide (c.toInt ≤ hi)) = true) : lo ≤ c.toInt ∧ c.toInt ≤ hi := by
  rw [Bool.and_eq_true, decide_eq_true_eq, decide_eq_true_eq] at h
  exact h
set_option maxRecDepth 4000 in
theorem zd0 : ∃ t c, cRT[0]? = some t ∧ zH0.1[0]? = some c ∧ dC zs0 t c := by
  refine ⟨_, _, rfl, zh0, ⟨_, rfl, rfl, fun i ty e => ?_⟩⟩
  match i, e with
  | 0, e => cases e; exact ⟨_, rfl, _, rfl, zs0_of (by decide)⟩
  | 1, e => cases e; exact ⟨_, rfl, _, rfl, zs0_of (by decide)⟩
  | 2, e => cases e; exact ⟨_, rfl, _, rfl, zs0_of (by decide)⟩
  | 3, e => cases e; exact ⟨_, rfl, _, rfl, zs0_of (by decide)⟩
  | 4, e => cases e; exact ⟨_, rfl, _, rfl, zs0_of (by decide)⟩
  | 5, e => cases e; exact ⟨_, rfl, _, rfl, zs0_of (by decide)⟩
  | 6, e => cases e; exact ⟨_, rfl, _, rfl, zs0_of (by decide)⟩
  | 7, e => cases e; exact ⟨_, rfl, _, rfl, zs0_of (by decide)⟩
  | 8, e => cases e; exact ⟨_, rfl, _, rfl, zs0_of (by decide)⟩
  | 9, e => cases e; exact ⟨_, rfl, _, rfl, zs0_of (by decide)⟩
  | i + 10, e => simp at e
set_option maxRecDepth 4000 in
theorem zd1 : ∃ t c, cRT[1]? = some t ∧ zH0.1[1]? = some c ∧ dC zs0 t c := by
  refine ⟨_, _, rfl, zh1, ⟨_, rfl, rfl, fun i ty e => ?_⟩⟩
  match i, e with
  | 0, e => cases e; exact ⟨_, rfl, _, rfl, c32 (by decide)⟩
  | 1, e => cases e; exact ⟨_, rfl, _, rfl, c32 (by decide)⟩
  | 2, e => cases e; exact ⟨_, rfl, _, rfl, c32 (by decide)⟩
  | 3, e => cases e; exact ⟨_, rfl, _, rfl, c32 (by decide)⟩
  | 4, e => cases e; exact ⟨_, rfl, _, rfl, c32 (by decide)⟩
  | 5, e => cases e; exact ⟨_, rfl, _, rfl, c32 (by decide)⟩
  | 6, e => cases e; exact ⟨_, rfl, _, rfl, c32 (by decide)⟩
  | 7, e => cases e; exact ⟨_, rfl, _, rfl, zs0_of (by decide)⟩
  | 8, e => cases e; exact ⟨_, rfl, _, rfl, zs0_of (by decide)⟩
  | 9, e => cases e; exact ⟨_, rfl, _, rfl, zs0_of (by decide)⟩
  | 10, e => cases e; exact ⟨_, rfl, _, rfl, zs0_of (by decide)⟩
  | 11, e => cases e; exact ⟨_, rfl, _, rfl, zs0_of (by decide)⟩
  | 12, e => cases e; exact ⟨_, rfl, _, rfl, zs0_of (by decide)⟩
  | 13, e => cases e; exact ⟨_, rfl, _, rfl, zs0_of (by decide)⟩
  | 14, e => cases e; exact ⟨_, rfl, _, rfl, zs0_of (by decide)⟩
  | 15, e => cases e; exact ⟨_, rfl, _, rfl, zs0_of (by decide)⟩
  | 16, e => cases e; exact ⟨_, rfl, _, rfl, zs0_of (by decide)⟩
  | 17, e => cases e; exact ⟨_, rfl, _, rfl, zs0_of (by decide)⟩
  | i + 18, e => simp at e
theorem zd2 : ∃ t c, cRT[2]? = some t ∧ zH0.1[2]? = some c ∧ dC zs0 t c := ⟨_, _, rfl, zh2, ⟨_, rfl, fun j _ => c32 (by decide)⟩⟩
theorem zd3 : ∃ t c, cRT[3]? = some t ∧ zH0.1[3]? = some c ∧ dC zs0 t c := ⟨_, _, rfl, zh3, ⟨_, rfl, fun j _ => c32 (by decide)⟩⟩
theorem zd4 : ∃ t c, cRT[4]? = some t ∧ zH0.1[4]? = some c ∧ dC zs0 t c := ⟨_, _, rfl, zh4, ⟨_, rfl, fun j _ => c32 (by decide)⟩⟩
theorem zd5 : ∃ t c, cRT[5]? = some t ∧ zH0.1[5]? = some c ∧ dC zs0 t c := ⟨_, _, rfl, zh5, ⟨_, rfl, fun j _ => c32 (by decide)⟩⟩
theorem zd6 : ∃ t c, cRT[6]? = some t ∧ zH0.1[6]? = some c ∧ dC zs0 t c := ⟨_, _, rfl, zh6, ⟨_, rfl, fun j _ => c32 (by decide)⟩⟩
theorem zd7 : ∃ t c, cRT[7]? = some t ∧ zH0.1[7]? = some c ∧ dC zs0 t c := ⟨_, _, rfl, zh7, ⟨_, rfl, fun j _ => c32 (by decide)⟩⟩
theorem zd8 : ∃ t c, cRT[8]? = some t ∧ zH0.1[8]? = some c ∧ dC zs0 t c := ⟨_, _, rfl, zh8, ⟨_, rfl, fun j _ => c32 (by decide)⟩⟩
theorem zd9 : ∃ t c, cRT[9]? = some t ∧ zH0.1[9]? = some c ∧ dC zs0 t c := ⟨_, _, rfl, zh9, ⟨_, rfl, fun j _ => c32 (by decide)⟩⟩
theorem zd10 : ∃ t c, cRT[10]? = some t ∧ zH0.1[10]? = some c ∧ dC zs0 t c := ⟨_, _, rfl, zh10, ⟨_, rfl, fun j _ => c32 (by decide)⟩⟩
theorem zd11 : ∃ t c, cRT[11]? = some t ∧ zH0.1[11]? = some c ∧ dC zs0 t c := ⟨_, _, rfl, zh11, ⟨_, rfl, fun j _ => c32 (by decide)⟩⟩
theorem zd12 : ∃ t c, cRT[12]? = some t ∧ zH0.1[12]? = some c ∧ dC zs0 t c := ⟨_, _, rfl, zh12, ⟨_, rfl, fun j _ => c32 (by decide)⟩⟩
set_option maxRecDepth 4000 in
theorem zd13 : ∃ t c, cRT[13]? = some t ∧ zH0.1[13]? = some c ∧ dC zs0 t c := by
  refine ⟨_, _, rfl, zh13, ⟨_, rfl, rfl, fun i ty e => ?_⟩⟩
  match i, e with
  | 0, e => cases e; exact ⟨_, rfl, _, rfl, zs0_of (by decide)⟩
  | 1, e => cases e; exact ⟨_, rfl, _, rfl, zs0_of (by decide)⟩
  | 2, e => cases e; exact ⟨_, rfl, _, rfl, c32 (by decide)⟩
  | i + 3, e => simp at e
theorem zd14 : ∃ t c, cRT[14]? = some t ∧ zH0.1[14]? = some c ∧ dC zs0 t c := ⟨_, _, rfl, zh14, ⟨_, rfl, fun j _ => c32 (by decide)⟩⟩
theorem zd15 : ∃ t c, cRT[15]? = some t ∧ zH0.1[15]? = some c ∧ dC zs0 t c := ⟨_, _, rfl, zh15, ⟨_, rfl, fun j _ => c32 (by decide)⟩⟩
set_option maxRecDepth 4000 in
theorem zd16 : ∃ t c, cRT[16]? = some t ∧ zH0.1[16]? = some c ∧ dC zs0 t c := by
  refine ⟨_, _, rfl, zh16, ⟨_, rfl, rfl, fun i ty e => ?_⟩⟩
  match i, e with
  | 0, e => cases e; exact ⟨_, rfl, _, rfl, zs0_of (by decide)⟩
  | 1, e => cases e; exact ⟨_, rfl, _, rfl, c32 (by decide)⟩
  | 2, e => cases e; exact ⟨_, rfl, _, rfl, c32 (by decide)⟩
  | 3, e => cases e; exact ⟨_, rfl, _, rfl, c32 (by decide)⟩
  | 4, e => cases e; exact ⟨_, rfl, _, rfl, zs0_of (by decide)⟩
  | 5, e => cases e; exact ⟨_, rfl, _, rfl, zs0_of (by decide)⟩
  | 6, e => cases e; exact ⟨_, rfl, _, rfl, zs0_of (by decide)⟩
  | 7, e => cases e; exact ⟨_, rfl, _, rfl, zs0_of (by decide)⟩
  | 8, e => cases e; exact ⟨_, rfl, _, rfl, zs0_of (by decide)⟩
  | 9, e => cases e; exact ⟨_, rfl, _, rfl, zs0_of (by decide)⟩
  | 10, e => cases e; exact ⟨_, rfl, _, rfl, zs0_of (by decide)⟩
  | 11, e => cases e; exact ⟨_, rfl, _, rfl, zs0_of (by decide)⟩
  | 12, e => cases e; exact ⟨_, rfl, _, rfl, zs0_of (by decide)⟩
  | 13, e => cases e; exact ⟨_, rfl, _, rfl, zs0_of (by decide)⟩
  | 14, e => cases e; exact ⟨_, rfl, _, rfl, zs0_of (by decide)⟩
  | 15, e => cases e; exact ⟨_, rfl, _, rfl, zs0_of (by decide)⟩
  | 16, e => cases e; exact ⟨_, rfl, _, rfl, zs0_of (by decide)⟩
  | 17, e => cases e; exact ⟨_, rfl, _, rfl, zs0_of (by decide)⟩
  | 18, e => cases e; exact ⟨_, rfl, _, rfl, zs0_of (by decide)⟩
  | 19, e => cases e; exact ⟨_, rfl, _, rfl, zs0_of (by decide)⟩
  | i + 20, e => simp at e
theorem zd17 : ∃ t c, cRT[17]? = some t ∧ zH0.1[17]? = some c ∧ dC zs0 t c := ⟨_, _, rfl, zh17, ⟨_, rfl, fun j _ => c32 (by decide)⟩⟩
theorem zd18 : ∃ t c, cRT[18]? = some t ∧ zH0.1[18]? = some c ∧ dC zs0 t c := ⟨_, _, rfl, zh18, ⟨_, rfl, fun j _ => c32 (by decide)⟩⟩
theorem zd19 : ∃ t c, cRT[19]? = some t ∧ zH0.1[19]? = some c ∧ dC zs0 t c := ⟨_, _, rfl, zh19, ⟨_, rfl, fun j _ => c32 (by decide)⟩⟩
theorem zd20 : ∃ t c, cRT[20]? = some t ∧ zH0.1[20]? = some c ∧ dC zs0 t c := ⟨_, _, rfl, zh20, ⟨_, rfl, fun j _ => c32 (by decide)⟩⟩
theorem zd21 : ∃ t c, cRT[21]? = some t ∧ zH0.1[21]? = some c ∧ dC zs0 t c := ⟨_, _, rfl, zh21, ⟨_, rfl, fun j _ => c32 (by decide)⟩⟩
theorem zd22 : ∃ t c, cRT[22]? = some t ∧ zH0.1[22]? = some c ∧ dC zs0 t c := ⟨_, _, rfl, zh22, ⟨_, rfl, fun j _ => c32 (by decide)⟩⟩
theorem zd23 : ∃ t c, cRT[23]? = some t ∧ zH0.1[23]? = some c ∧ dC zs0 t c := ⟨_, _, rfl, zh23, ⟨_, rfl, fun j _ => c32 (by decide)⟩⟩
theorem zd24 : ∃ t c, cRT[24]? = some t ∧ zH0.1[24]? = some c ∧ dC zs0 t c := ⟨_, _, rfl, zh24, ⟨_, rfl, fun j _ => c32 (by decide)⟩⟩
theorem zd25 : ∃ t c, cRT[25]? = some t ∧ zH0.1[25]? = some c ∧ dC zs0 t c := ⟨_, _, rfl, zh25, ⟨_, rfl, fun j _ => c32 (by decide)⟩⟩
theorem zd26 : ∃ t c, cRT[26]? = some t ∧ zH0.1[26]? = some c ∧ dC zs0 t c := ⟨_, _, rfl, zh26, ⟨_, rfl, fun j _ => c32 (by decide)⟩⟩
theorem zd27 : ∃ t c, cRT[27]? = some t ∧ zH0.1[27]? = some c ∧ dC zs0 t c := ⟨_, _, rfl, zh27, ⟨_, rfl, fun j _ => c32 (by decide)⟩⟩
theorem zd28 : ∃ t c, cRT[28]? = some t ∧ zH0.1[28]? = some c ∧ dC zs0 t c := ⟨_, _, rfl, zh28, ⟨_, rfl, fun j _ => c32 (by decide)⟩⟩
theorem zd29 : ∃ t c, cRT[29]? = some t ∧ zH0.1[29]? = some c ∧ dC zs0 t c := ⟨_, _, rfl, zh29, ⟨_, rfl, fun j _ => c32 (by decide)⟩⟩
theorem zd30 : ∃ t c, cRT[30]? = some t ∧ zH0.1[30]? = some c ∧ dC zs0 t c := ⟨_, _, rfl, zh30, ⟨_, rfl, fun j _ => c32 (by decide)⟩⟩
theorem zd31 : ∃ t c, cRT[31]? = some t ∧ zH0.1[31]? = some c ∧ dC zs0 t c := ⟨_, _, rfl, zh31, ⟨_, rfl, fun j _ => c32 (by decide)⟩⟩
theorem zd32 : ∃ t c, cRT[32]? = some t ∧ zH0.1[32]? = some c ∧ dC zs0 t c := ⟨_, _, rfl, zh32, ⟨_, rfl, fun j _ => c32 (by decide)⟩⟩
set_option maxRecDepth 4000 in
theorem zd33 : ∃ t c, cRT[33]? = some t ∧ zH0.1[33]? = some c ∧ dC zs0 t c := by
  refine ⟨_, _, rfl, zh33, ⟨_, rfl, rfl, fun i ty e => ?_⟩⟩
  match i, e with
  | 0, e => cases e; exact ⟨_, rfl, _, rfl, zs0_of (by decide)⟩
  | 1, e => cases e; exact ⟨_, rfl, _, rfl, c32 (by decide)⟩
  | 2, e => cases e; exact ⟨_, rfl, _, rfl, zs0_of (by decide)⟩
  | 3, e => cases e; exact ⟨_, rfl, _, rfl, zs0_of (by decide)⟩
  | 4, e => cases e; exact ⟨_, rfl, _, rfl, zs0_of (by decide)⟩
  | 5, e => cases e; exact ⟨_, rfl, _, rfl, zs0_of (by decide)⟩
  | 6, e => cases e; exact ⟨_, rfl, _, rfl, zs0_of (by decide)⟩
  | 7, e => cases e; exact ⟨_, rfl, _, rfl, c32 (by decide)⟩
  | 8, e => cases e; exact ⟨_, rfl, _, rfl, zs0_of (by decide)⟩
  | 9, e => cases e; exact ⟨_, rfl, _, rfl, c32 (by decide)⟩
  | 10, e => cases e; exact ⟨_, rfl, _, rfl, c32 (by decide)⟩
  | 11, e => cases e; exact ⟨_, rfl, _, rfl, c32 (by decide)⟩
  | 12, e => cases e; exact ⟨_, rfl, _, rfl, c32 (by decide)⟩
  | 13, e => cases e; exact ⟨_, rfl, Or.inl rfl⟩
  | 14, e => cases e; exact ⟨_, rfl, _, rfl, c32 (by decide)⟩
  | i + 15, e => simp at e
theorem zd34 : ∃ t c, cRT[34]? = some t ∧ zH0.1[34]? = some c ∧ dC zs0 t c := ⟨_, _, rfl, zh34, ⟨_, rfl, fun j _ => c32 (by decide)⟩⟩
theorem zd35 : ∃ t c, cRT[35]? = some t ∧ zH0.1[35]? = some c ∧ dC zs0 t c := ⟨_, _, rfl, zh35, ⟨_, rfl, fun j _ => c32 (by decide)⟩⟩
theorem zd36 : ∃ t c, cRT[36]? = some t ∧ zH0.1[36]? = some c ∧ dC zs0 t c := ⟨_, _, rfl, zh36, ⟨_, rfl, fun j _ => c32 (by decide)⟩⟩
theorem zd37 : ∃ t c, cRT[37]? = some t ∧ zH0.1[37]? = some c ∧ dC zs0 t c := ⟨_, _, rfl, zh37, ⟨_, rfl, fun j _ => c32 (by decide)⟩⟩
theorem zd38 : ∃ t c, cRT[38]? = some t ∧ zH0.1[38]? = some c ∧ dC zs0 t c := ⟨_, _, rfl, zh38, ⟨_, rfl, fun j _ => c32 (by decide)⟩⟩
theorem zd39 : ∃ t c, cRT[39]? = some t ∧ zH0.1[39]? = some c ∧ dC zs0 t c := ⟨_, _, rfl, zh39, ⟨_, rfl, fun j _ => c32 (by decide)⟩⟩
theorem zd40 : ∃ t c, cRT[40]? = some t ∧ zH0.1[40]? = some c ∧ dC zs0 t c := ⟨_, _, rfl, zh40, ⟨_, rfl, fun j _ => c32 (by decide)⟩⟩
set_option maxRecDepth 4000 in
theorem zd41 : ∃ t c, cRT[41]? = some t ∧ zH0.1[41]? = some c ∧ dC zs0 t c := by
  refine ⟨_, _, rfl, zh41, ⟨_, rfl, rfl, fun i ty e => ?_⟩⟩
  match i, e with
  | 0, e => cases e; exact ⟨_, rfl, _, rfl, zs0_of (by decide)⟩
  | 1, e => cases e; exact ⟨_, rfl, _, rfl, zs0_of (by decide)⟩
  | 2, e => cases e; exact ⟨_, rfl, _, rfl, zs0_of (by decide)⟩
  | 3, e => cases e; exact ⟨_, rfl, _, rfl, zs0_of (by decide)⟩
  | 4, e => cases e; exact ⟨_, rfl, _, rfl, zs0_of (by decide)⟩
  | 5, e => cases e; exact ⟨_, rfl, _, rfl, zs0_of (by decide)⟩
  | 6, e => cases e; exact ⟨_, rfl, _, rfl, zs0_of (by decide)⟩
  | 7, e => cases e; exact ⟨_, rfl, _, rfl, c32 (by decide)⟩
  | 8, e => cases e; exact ⟨_, rfl, _, rfl, zs0_of (by decide)⟩
  | 9, e => cases e; exact ⟨_, rfl, _, rfl, zs0_of (by decide)⟩
  | i + 10, e => simp at e
theorem zd42 : ∃ t c, cRT[42]? = some t ∧ zH0.1[42]? = some c ∧ dC zs0 t c := ⟨_, _, rfl, zh42, ⟨_, rfl, fun j q e => by cases e⟩⟩
theorem zd43 : ∃ t c, cRT[43]? = some t ∧ zH0.1[43]? = some c ∧ dC zs0 t c := ⟨_, _, rfl, zh43, ⟨_, rfl, fun j _ => c32 (by decide)⟩⟩
theorem zd44 : ∃ t c, cRT[44]? = some t ∧ zH0.1[44]? = some c ∧ dC zs0 t c := ⟨_, _, rfl, zh44, ⟨_, rfl, fun j _ => c32 (by decide)⟩⟩
theorem zd45 : ∃ t c, cRT[45]? = some t ∧ zH0.1[45]? = some c ∧ dC zs0 t c := ⟨_, _, rfl, zh45, ⟨_, rfl, fun j _ => c32 (by decide)⟩⟩
theorem zd46 : ∃ t c, cRT[46]? = some t ∧ zH0.1[46]? = some c ∧ dC zs0 t c := ⟨_, _, rfl, zh46, ⟨_, rfl, fun j _ => c32 (by decide)⟩⟩
theorem zd47 : ∃ t c, cRT[47]? = some t ∧ zH0.1[47]? = some c ∧ dC zs0 t c := ⟨_, _, rfl, zh47, ⟨_, rfl, fun j _ => c32 (by decide)⟩⟩
set_option maxRecDepth 4000 in
theorem zd48 : ∃ t c, cRT[48]? = some t ∧ zH0.1[48]? = some c ∧ dC zs0 t c := by
  refine ⟨_, _, rfl, zh48, ⟨_, rfl, rfl, fun i ty e => ?_⟩⟩
  match i, e with
  | 0, e => cases e; exact ⟨_, rfl, _, rfl, zs0_of (by decide)⟩
  | 1, e => cases e; exact ⟨_, rfl, _, rfl, zs0_of (by decide)⟩
  | 2, e => cases e; exact ⟨_, rfl, _, rfl, zs0_of (by decide)⟩
  | 3, e => cases e; exact ⟨_, rfl, _, rfl, zs0_of (by decide)⟩
  | 4, e => cases e; exact ⟨_, rfl, _, rfl, c32 (by decide)⟩
  | 5, e => cases e; exact ⟨_, rfl, _, rfl, zs0_of (by decide)⟩
  | 6, e => cases e; exact ⟨_, rfl, _, rfl, zs0_of (by decide)⟩
  | 7, e => cases e; exact ⟨_, rfl, _, rfl, c32 (by decide)⟩
  | 8, e => cases e; exact ⟨_, rfl, _, rfl, zs0_of (by decide)⟩
  | 9, e => cases e; exact ⟨_, rfl, _, rfl, c32 (by decide)⟩
  | 10, e => cases e; exact ⟨_, rfl, _, rfl, zs0_of (by decide)⟩
  | 11, e => cases e; exact ⟨_, rfl, _, rfl, zs0_of (by decide)⟩
  | 12, e => cases e; exact ⟨_, rfl, _, rfl, c32 (by decide)⟩
  | 13, e => cases e; exact ⟨_, rfl, _, rfl, c32 (by decide)⟩
  | 14, e => cases e; exact ⟨_, rfl, _, rfl, c32 (by decide)⟩
  | 15, e => cases e; exact ⟨_, rfl, _, rfl, c32 (by decide)⟩
  | 16, e => cases e; exact ⟨_, rfl, _, rfl, c32 (by decide)⟩
  | i + 17, e => simp at e
theorem zd49 : ∃ t c, cRT[49]? = some t ∧ zH0.1[49]? = some c ∧ dC zs0 t c := ⟨_, _, rfl, zh49, ⟨_, rfl, fun j _ => c32 (by decide)⟩⟩
theorem zd50 : ∃ t c, cRT[50]? = some t ∧ zH0.1[50]? = some c ∧ dC zs0 t c := ⟨_, _, rfl, zh50, ⟨_, rfl, fun j _ => c32 (by decide)⟩⟩
theorem zd51 : ∃ t c, cRT[51]? = some t ∧ zH0.1[51]? = some c ∧ dC zs0 t c := ⟨_, _, rfl, zh51, ⟨_, rfl, fun j _ => c32 (by decide)⟩⟩
theorem zd52 : ∃ t c, cRT[52]? = some t ∧ zH0.1[52]? = some c ∧ dC zs0 t c := ⟨_, _, rfl, zh52, ⟨_, rfl, fun j _ => c32 (by decide)⟩⟩
theorem zd53 : ∃ t c, cRT[53]? = some t ∧ zH0.1[53]? = some c ∧ dC zs0 t c := ⟨_, _, rfl, zh53, ⟨_, rfl, fun j _ => c32 (by decide)⟩⟩
theorem zd54 : ∃ t c, cRT[54]? = some t ∧ zH0.1[54]? = some c ∧ dC zs0 t c := ⟨_, _, rfl, zh54, ⟨_, rfl, fun j _ => c32 (by decide)⟩⟩
set_option maxRecDepth 4000 in
theorem zd55 : ∃ t c, cRT[55]? = some t ∧ zH0.1[55]? = some c ∧ dC zs0 t c := by
  refine ⟨_, _, rfl, zh55, ⟨_, rfl, rfl, fun i ty e => ?_⟩⟩
  match i, e with
  | 0, e => cases e; exact ⟨_, rfl, _, rfl, zs0_of (by decide)⟩
  | 1, e => cases e; exact ⟨_, rfl, _, rfl, c32 (by decide)⟩
  | 2, e => cases e; exact ⟨_, rfl, _, rfl, zs0_of (by decide)⟩
  | 3, e => cases e; exact ⟨_, rfl, _, rfl, zs0_of (by decide)⟩
  | 4, e => cases e; exact ⟨_, rfl, _, rfl, c32 (by decide)⟩
  | 5, e => cases e; exact ⟨_, rfl, _, rfl, zs0_of (by decide)⟩
  | 6, e => cases e; exact ⟨_, rfl, _, rfl, zs0_of (by decide)⟩
  | 7, e => cases e; exact ⟨_, rfl, _, rfl, zs0_of (by decide)⟩
  | 8, e => cases e; exact ⟨_, rfl, _, rfl, zs0_of (by decide)⟩
  | 9, e => cases e; exact ⟨_, rfl, _, rfl, c32 (by decide)⟩
  | 10, e => cases e; exact ⟨_, rfl, _, rfl, c32 (by decide)⟩
  | 11, e => cases e; exact ⟨_, rfl, _, rfl, c32 (by decide)⟩
  | i + 12, e => simp at e
theorem zd56 : ∃ t c, cRT[56]? = some t ∧ zH0.1[56]? = some c ∧ dC zs0 t c := ⟨_, _, rfl, zh56, ⟨_, rfl, fun j _ => c32 (by decide)⟩⟩
theorem zd57 : ∃ t c, cRT[57]? = some t ∧ zH0.1[57]? = some c ∧ dC zs0 t c := ⟨_, _, rfl, zh57, ⟨_, rfl, fun j _ => c32 (by decide)⟩⟩
theorem zd58 : ∃ t c, cRT[58]? = some t ∧ zH0.1[58]? = some c ∧ dC zs0 t c := ⟨_, _, rfl, zh58, ⟨_, rfl, fun j _ => c32 (by decide)⟩⟩
theorem zd59 : ∃ t c, cRT[59]? = some t ∧ zH0.1[59]? = some c ∧ dC zs0 t c := ⟨_, _, rfl, zh59, ⟨_, rfl, fun j hj => by
  have hj : j < 8 := hj
  match j, hj with
  | 0, _ => exact c32 (by decide)
  | 1, _ => exact c32 (by decide)
  | 2, _ => exact c32 (by decide)
  | 3, _ => exact c32 (by decide)
  | 4, _ => exact c32 (by decide)
  | 5, _ => exact c32 (by decide)
  | 6, _ => exact c32 (by decide)
  | 7, _ => exact c32 (by decide)⟩⟩
theorem zd60 : ∃ t c, cRT[60]? = some t ∧ zH0.1[60]? = some c ∧ dC zs0 t c := ⟨_, _, rfl, zh60, ⟨_, rfl, fun j _ => c32 (by decide)⟩⟩
theorem zd61 : ∃ t c, cRT[61]? = some t ∧ zH0.1[61]? = some c ∧ dC zs0 t c := ⟨_, _, rfl, zh61, ⟨_, rfl, fun j _ => c32 (by decide)⟩⟩
theorem zd62 : ∃ t c, cRT[62]? = some t ∧ zH0.1[62]? = some c ∧ dC zs0 t c := ⟨_, _, rfl, zh62, ⟨_, rfl, fun j _ => c32 (by decide)⟩⟩
set_option maxRecDepth 4000 in
theorem zd63 : ∃ t c, cRT[63]? = some t ∧ zH0.1[63]? = some c ∧ dC zs0 t c := by
  refine ⟨_, _, rfl, zh63, ⟨_, rfl, rfl, fun i ty e => ?_⟩⟩
  match i, e with
  | 0, e => cases e; exact ⟨_, rfl, _, rfl, zs0_of (by decide)⟩
  | 1, e => cases e; exact ⟨_, rfl, _, rfl, c32 (by decide)⟩
  | 2, e => cases e; exact ⟨_, rfl, _, rfl, zs0_of (by decide)⟩
  | i + 3, e => simp at e
theorem zd64 : ∃ t c, cRT[64]? = some t ∧ zH0.1[64]? = some c ∧ dC zs0 t c := ⟨_, _, rfl, zh64, ⟨_, rfl, fun j _ => c32 (by decide)⟩⟩
theorem zd65 : ∃ t c, cRT[65]? = some t ∧ zH0.1[65]? = some c ∧ dC zs0 t c := ⟨_, _, rfl, zh65, ⟨_, rfl, fun j q e => by cases e⟩⟩
set_option maxRecDepth 4000 in
theorem zd66 : ∃ t c, cRT[66]? = some t ∧ zH0.1[66]? = some c ∧ dC zs0 t c := by
  refine ⟨_, _, rfl, zh66, ⟨_, rfl, rfl, fun i ty e => ?_⟩⟩
  match i, e with
  | 0, e => cases e; exact ⟨_, rfl, _, rfl, zs0_of (by decide)⟩
  | 1, e => cases e; exact ⟨_, rfl, _, rfl, c32 (by decide)⟩
  | 2, e => cases e; exact ⟨_, rfl, _, rfl, c32 (by decide)⟩
  | 3, e => cases e; exact ⟨_, rfl, _, rfl, c32 (by decide)⟩
  | 4, e => cases e; exact ⟨_, rfl, _, rfl, c32 (by decide)⟩
  | i + 5, e => simp at e
theorem zd67 : ∃ t c, cRT[67]? = some t ∧ zH0.1[67]? = some c ∧ dC zs0 t c := ⟨_, _, rfl, zh67, ⟨_, rfl, fun j _ => c32 (by decide)⟩⟩
set_option maxRecDepth 4000 in
theorem zd68 : ∃ t c, cRT[68]? = some t ∧ zH0.1[68]? = some c ∧ dC zs0 t c := by
  refine ⟨_, _, rfl, zh68, ⟨_, rfl, rfl, fun i ty e => ?_⟩⟩
  match i, e with
  | 0, e => cases e; exact ⟨_, rfl, _, rfl, zs0_of (by decide)⟩
  | 1, e => cases e; exact ⟨_, rfl, _, rfl, zs0_of (by decide)⟩
  | 2, e => cases e; exact ⟨_, rfl, _, rfl, zs0_of (by decide)⟩
  | i + 3, e => simp at e
theorem zd69 : ∃ t c, cRT[69]? = some t ∧ zH0.1[69]? = some c ∧ dC zs0 t c := ⟨_, _, rfl, zh69, ⟨_, rfl, fun j _ => c32 (by decide)⟩⟩
theorem zd70 : ∃ t c, cRT[70]? = some t ∧ zH0.1[70]? = some c ∧ dC zs0 t c := ⟨_, _, rfl, zh70, ⟨_, rfl, fun j _ => c32 (by decide)⟩⟩
theorem zd71 : ∃ t c, cRT[71]? = some t ∧ zH0.1[71]? = some c ∧ dC zs0 t c := ⟨_, _, rfl, zh71, ⟨_, rfl, fun j _ => c64 (by decide)⟩⟩
set_option maxRecDepth 4000 in
theorem zd72 : ∃ t c, cRT[72]? = some t ∧ zH0.1[72]? = some c ∧ dC zs0 t c := by
  refine ⟨_, _, rfl, zh72, ⟨_, rfl, rfl, fun i ty e => ?_⟩⟩
  match i, e with
  | 0, e => cases e; exact ⟨_, rfl, _, rfl, c32 (by decide)⟩
  | 1, e => cases e; exact ⟨_, rfl, _, rfl, c32 (by decide)⟩
  | 2, e => cases e; exact ⟨_, rfl, _, rfl, c32 (by decide)⟩
  | 3, e => cases e; exact ⟨_, rfl, _, rfl, zs0_of (by decide)⟩
  | 4, e => cases e; exact ⟨_, rfl, _, rfl, zs0_of (by decide)⟩
  | 5, e => cases e; exact ⟨_, rfl, _, rfl, zs0_of (by decide)⟩
  | 6, e => cases e; exact ⟨_, rfl, _, rfl, zs0_of (by decide)⟩
  | 7, e => cases e; exact ⟨_, rfl, _, rfl, zs0_of (by decide)⟩
  | 8, e => cases e; exact ⟨_, rfl, _, rfl, zs0_of (by decide)⟩
  | 9, e => cases e; exact ⟨_, rfl, _, rfl, zs0_of (by decide)⟩
  | 10, e => cases e; exact ⟨_, rfl, _, rfl, zs0_of (by decide)⟩
  | 11, e => cases e; exact ⟨_, rfl, _, rfl, c32 (by decide)⟩
  | 12, e => cases e; exact ⟨_, rfl, _, rfl, zs0_of (by decide)⟩
  | 13, e => cases e; exact ⟨_, rfl, _, rfl, zs0_of (by decide)⟩
  | 14, e => cases e; exact ⟨_, rfl, _, rfl, c32 (by decide)⟩
  | 15, e => cases e; exact ⟨_, rfl, _, rfl, zs0_of (by decide)⟩
  | 16, e => cases e; exact ⟨_, rfl, _, rfl, zs0_of (by decide)⟩
  | 17, e => cases e; exact ⟨_, rfl, _, rfl, zs0_of (by decide)⟩
  | 18, e => cases e; exact ⟨_, rfl, _, rfl, zs0_of (by decide)⟩
  | 19, e => cases e; exact ⟨_, rfl, _, rfl, c32 (by decide)⟩
  | 20, e => cases e; exact ⟨_, rfl, _, rfl, zs0_of (by decide)⟩
  | 21, e => cases e; exact ⟨_, rfl, _, rfl, zs0_of (by decide)⟩
  | 22, e => cases e; exact ⟨_, rfl, _, rfl, zs0_of (by decide)⟩
  | 23, e => cases e; exact ⟨_, rfl, _, rfl, zs0_of (by decide)⟩
  | 24, e => cases e; exact ⟨_, rfl, _, rfl, zs0_of (by decide)⟩
  | 25, e => cases e; exact ⟨_, rfl, _, rfl, c32 (by decide)⟩
  | 26, e => cases e; exact ⟨_, rfl, _, rfl, zs0_of (by decide)⟩
  | 27, e => cases e; exact ⟨_, rfl, _, rfl, zs0_of (by decide)⟩
  | 28, e => cases e; exact ⟨_, rfl, _, rfl, zs0_of (by decide)⟩
  | 29, e => cases e; exact ⟨_, rfl, _, rfl, zs0_of (by decide)⟩
  | 30, e => cases e; exact ⟨_, rfl, _, rfl, zs0_of (by decide)⟩
  | 31, e => cases e; exact ⟨_, rfl, _, rfl, zs0_of (by decide)⟩
  | 32, e => cases e; exact ⟨_, rfl, _, rfl, c32 (by decide)⟩
  | 33, e => cases e; exact ⟨_, rfl, _, rfl, zs0_of (by decide)⟩
  | 34, e => cases e; exact ⟨_, rfl, _, rfl, zs0_of (by decide)⟩
  | 35, e => cases e; exact ⟨_, rfl, _, rfl, zs0_of (by decide)⟩
  | 36, e => cases e; exact ⟨_, rfl, _, rfl, zs0_of (by decide)⟩
  | 37, e => cases e; exact ⟨_, rfl, _, rfl, zs0_of (by decide)⟩
  | 38, e => cases e; exact ⟨_, rfl, _, rfl, c32 (by decide)⟩
  | 39, e => cases e; exact ⟨_, rfl, _, rfl, c32 (by decide)⟩
  | 40, e => cases e; exact ⟨_, rfl, _, rfl, zs0_of (by decide)⟩
  | 41, e => cases e; exact ⟨_, rfl, _, rfl, zs0_of (by decide)⟩
  | 42, e => cases e; exact ⟨_, rfl, _, rfl, zs0_of (by decide)⟩
  | 43, e => cases e; exact ⟨_, rfl, _, rfl, zs0_of (by decide)⟩
  | 44, e => cases e; exact ⟨_, rfl, _, rfl, zs0_of (by decide)⟩
  | 45, e => cases e; exact ⟨_, rfl, _, rfl, zs0_of (by decide)⟩
  | 46, e => cases e; exact ⟨_, rfl, _, rfl, zs0_of (by decide)⟩
  | 47, e => cases e; exact ⟨_, rfl, _, rfl, zs0_of (by decide)⟩
  | 48, e => cases e; exact ⟨_, rfl, _, rfl, zs0_of (by decide)⟩
  | 49, e => cases e; exact ⟨_, rfl, _, rfl, zs0_of (by decide)⟩
  | 50, e => cases e; exact ⟨_, rfl, _, rfl, zs0_of (by decide)⟩
  | 51, e => cases e; exact ⟨_, rfl, _, rfl, zs0_of (by decide)⟩
  | 52, e => cases e; exact ⟨_, rfl, _, rfl, c32 (by decide)⟩
  | 53, e => cases e; exact ⟨_, rfl, _, rfl, zs0_of (by decide)⟩
  | 54, e => cases e; exact ⟨_, rfl, _, rfl, c32 (by decide)⟩
  | 55, e => cases e; exact ⟨_, rfl, _, rfl, c32 (by decide)⟩
  | 56, e => cases e; exact ⟨_, rfl, _, rfl, zs0_of (by decide)⟩
  | 57, e => cases e; exact ⟨_, rfl, _, rfl, zs0_of (by decide)⟩
  | 58, e => cases e; exact ⟨_, rfl, _, rfl, zs0_of (by decide)⟩
  | 59, e => cases e; exact ⟨_, rfl, _, rfl, zs0_of (by decide)⟩
  | 60, e => cases e; exact ⟨_, rfl, _, rfl, zs0_of (by decide)⟩
  | 61, e => cases e; exact ⟨_, rfl, _, rfl, zs0_of (by decide)⟩
  | 62, e => cases e; exact ⟨_, rfl, _, rfl, zs0_of (by decide)⟩
  | 63, e => cases e; exact ⟨_, rfl, _, rfl, zs0_of (by decide)⟩
  | 64, e => cases e; exact ⟨_, rfl, _, rfl, c32 (by decide)⟩
  | 65, e => cases e; exact ⟨_, rfl, _, rfl, c32 (by decide)⟩
  | 66, e => cases e; exact ⟨_, rfl, _, rfl, c32 (by decide)⟩
  | 67, e => cases e; exact ⟨_, rfl, _, rfl, c32 (by decide)⟩
  | 68, e => cases e; exact ⟨_, rfl, _, rfl, c32 (by decide)⟩
  | 69, e => cases e; exact ⟨_, rfl, _, rfl, zs0_of (by decide)⟩
  | 70, e => cases e; exact ⟨_, rfl, _, rfl, zs0_of (by decide)⟩
  | 71, e => cases e; exact ⟨_, rfl, _, rfl, c32 (by decide)⟩
  | 72, e => cases e; exact ⟨_, rfl, _, rfl, zs0_of (by decide)⟩
  | 73, e => cases e; exact ⟨_, rfl, _, rfl, zs0_of (by decide)⟩
  | 74, e => cases e; exact ⟨_, rfl, _, rfl, zs0_of (by decide)⟩
  | 75, e => cases e; exact ⟨_, rfl, _, rfl, c32 (by decide)⟩
  | 76, e => cases e; exact ⟨_, rfl, _, rfl, zs0_of (by decide)⟩
  | 77, e => cases e; exact ⟨_, rfl, _, rfl, zs0_of (by decide)⟩
  | 78, e => cases e; exact ⟨_, rfl, _, rfl, zs0_of (by decide)⟩
  | 79, e => cases e; exact ⟨_, rfl, _, rfl, c32 (by decide)⟩
  | 80, e => cases e; exact ⟨_, rfl, _, rfl, zs0_of (by decide)⟩
  | 81, e => cases e; exact ⟨_, rfl, _, rfl, c32 (by decide)⟩
  | 82, e => cases e; exact ⟨_, rfl, _, rfl, zs0_of (by decide)⟩
  | 83, e => cases e; exact ⟨_, rfl, _, rfl, c32 (by decide)⟩
  | 84, e => cases e; exact ⟨_, rfl, _, rfl, c32 (by decide)⟩
  | 85, e => cases e; exact ⟨_, rfl, _, rfl, zs0_of (by decide)⟩
  | 86, e => cases e; exact ⟨_, rfl, _, rfl, zs0_of (by decide)⟩
  | 87, e => cases e; exact ⟨_, rfl, _, rfl, c32 (by decide)⟩
  | 88, e => cases e; exact ⟨_, rfl, _, rfl, zs0_of (by decide)⟩
  | 89, e => cases e; exact ⟨_, rfl, _, rfl, zs0_of (by decide)⟩
  | 90, e => cases e; exact ⟨_, rfl, _, rfl, zs0_of (by decide)⟩
  | 91, e => cases e; exact ⟨_, rfl, _, rfl, zs0_of (by decide)⟩
  | 92, e => cases e; exact ⟨_, rfl, _, rfl, zs0_of (by decide)⟩
  | 93, e => cases e; exact ⟨_, rfl, _, rfl, c32 (by decide)⟩
  | 94, e => cases e; exact ⟨_, rfl, _, rfl, c32 (by decide)⟩
  | 95, e => cases e; exact ⟨_, rfl, _, rfl, c32 (by decide)⟩
  | 96, e => cases e; exact ⟨_, rfl, _, rfl, zs0_of (by decide)⟩
  | 97, e => cases e; exact ⟨_, rfl, _, rfl, zs0_of (by decide)⟩
  | 98, e => cases e; exact ⟨_, rfl, _, rfl, zs0_of (by decide)⟩
  | 99, e => cases e; exact ⟨_, rfl, _, rfl, zs0_of (by decide)⟩
  | 100, e => cases e; exact ⟨_, rfl, _, rfl, zs0_of (by decide)⟩
  | i + 101, e => simp at e
theorem zd73 : ∃ t c, cRT[73]? = some t ∧ zH0.1[73]? = some c ∧ dC zs0 t c := ⟨_, _, rfl, zh73, ⟨_, rfl, fun j _ => c32 (by decide)⟩⟩
theorem zd74 : ∃ t c, cRT[74]? = some t ∧ zH0.1[74]? = some c ∧ dC zs0 t c := ⟨_, _, rfl, zh74, ⟨_, rfl, fun j _ => c32 (by decide)⟩⟩
theorem zd75 : ∃ t c, cRT[75]? = some t ∧ zH0.1[75]? = some c ∧ dC zs0 t c := ⟨_, _, rfl, zh75, ⟨_, rfl, fun j _ => c32 (by decide)⟩⟩
theorem zd76 : ∃ t c, cRT[76]? = some t ∧ zH0.1[76]? = some c ∧ dC zs0 t c := ⟨_, _, rfl, zh76, ⟨_, rfl, fun j _ => c32 (by decide)⟩⟩
theorem zd77 : ∃ t c, cRT[77]? = some t ∧ zH0.1[77]? = some c ∧ dC zs0 t c := ⟨_, _, rfl, zh77, ⟨_, rfl, fun j _ => c32 (by decide)⟩⟩
theorem zd78 : ∃ t c, cRT[78]? = some t ∧ zH0.1[78]? = some c ∧ dC zs0 t c := ⟨_, _, rfl, zh78, ⟨_, rfl, fun j _ => c32 (by decide)⟩⟩
theorem zd79 : ∃ t c, cRT[79]? = some t ∧ zH0.1[79]? = some c ∧ dC zs0 t c := ⟨_, _, rfl, zh79, ⟨_, rfl, fun j _ => c32 (by decide)⟩⟩
theorem zd80 : ∃ t c, cRT[80]? = some t ∧ zH0.1[80]? = some c ∧ dC zs0 t c := ⟨_, _, rfl, zh80, ⟨_, rfl, fun j _ => c32 (by decide)⟩⟩
theorem zd81 : ∃ t c, cRT[81]? = some t ∧ zH0.1[81]? = some c ∧ dC zs0 t c := ⟨_, _, rfl, zh81, ⟨_, rfl, fun j _ => c32 (by decide)⟩⟩
theorem zd82 : ∃ t c, cRT[82]? = some t ∧ zH0.1[82]? = some c ∧ dC zs0 t c := ⟨_, _, rfl, zh82, ⟨_, rfl, fun j _ => c32 (by decide)⟩⟩
theorem zd83 : ∃ t c, cRT[83]? = some t ∧ zH0.1[83]? = some c ∧ dC zs0 t c := ⟨_, _, rfl, zh83, ⟨_, rfl, fun j _ => c32 (by decide)⟩⟩
theorem zd84 : ∃ t c, cRT[84]? = some t ∧ zH0.1[84]? = some c ∧ dC zs0 t c := ⟨_, _, rfl, zh84, ⟨_, rfl, fun j _ => c32 (by decide)⟩⟩
theorem zd85 : ∃ t c, cRT[85]? = some t ∧ zH0.1[85]? = some c ∧ dC zs0 t c := ⟨_, _, rfl, zh85, ⟨_, rfl, fun j _ => c32 (by decide)⟩⟩
theorem zd86 : ∃ t c, cRT[86]? = some t ∧ zH0.1[86]? = some c ∧ dC zs0 t c := ⟨_, _, rfl, zh86, ⟨_, rfl, fun j _ => c32 (by decide)⟩⟩
theorem zd87 : ∃ t c, cRT[87]? = some t ∧ zH0.1[87]? = some c ∧ dC zs0 t c := ⟨_, _, rfl, zh87, ⟨_, rfl, fun j _ => c32 (by decide)⟩⟩
theorem zd88 : ∃ t c, cRT[88]? = some t ∧ zH0.1[88]? = some c ∧ dC zs0 t c := ⟨_, _, rfl, zh88, ⟨_, rfl, fun j _ => c32 (by decide)⟩⟩
theorem zd89 : ∃ t c, cRT[89]? = some t ∧ zH0.1[89]? = some c ∧ dC zs0 t c := ⟨_, _, rfl, zh89, ⟨_, rfl, fun j _ => c32 (by decide)⟩⟩
theorem zd90 : ∃ t c, cRT[90]? = some t ∧ zH0.1[90]? = some c ∧ dC zs0 t c := ⟨_, _, rfl, zh90, ⟨_, rfl, fun j _ => c32 (by decide)⟩⟩
theorem zd91 : ∃ t c, cRT[91]? = some t ∧ zH0.1[91]? = some c ∧ dC zs0 t c := ⟨_, _, rfl, zh91, ⟨_, rfl, fun j _ => c32 (by decide)⟩⟩
theorem zd92 : ∃ t c, cRT[92]? = some t ∧ zH0.1[92]? = some c ∧ dC zs0 t c := ⟨_, _, rfl, zh92, ⟨_, rfl, fun j _ => c32 (by decide)⟩⟩
theorem zd93 : ∃ t c, cRT[93]? = some t ∧ zH0.1[93]? = some c ∧ dC zs0 t c := ⟨_, _, rfl, zh93, ⟨_, rfl, fun j _ => c32 (by decide)⟩⟩
theorem zd94 : ∃ t c, cRT[94]? = some t ∧ zH0.1[94]? = some c ∧ dC zs0 t c := ⟨_, _, rfl, zh94, ⟨_, rfl, fun j _ => c32 (by decide)⟩⟩
theorem zd95 : ∃ t c, cRT[95]? = some t ∧ zH0.1[95]? = some c ∧ dC zs0 t c := ⟨_, _, rfl, zh95, ⟨_, rfl, fun j _ => c32 (by decide)⟩⟩
theorem zd96 : ∃ t c, cRT[96]? = some t ∧ zH0.1[96]? = some c ∧ dC zs0 t c := ⟨_, _, rfl, zh96, ⟨_, rfl, fun j _ => c32 (by decide)⟩⟩
theorem zd97 : ∃ t c, cRT[97]? = some t ∧ zH0.1[97]? = some c ∧ dC zs0 t c := ⟨_, _, rfl, zh97, ⟨_, rfl, fun j _ => c32 (by decide)⟩⟩
theorem zd98 : ∃ t c, cRT[98]? = some t ∧ zH0.1[98]? = some c ∧ dC zs0 t c := ⟨_, _, rfl, zh98, ⟨_, rfl, fun j _ => c32 (by decide)⟩⟩
theorem zd99 : ∃ t c, cRT[99]? = some t ∧ zH0.1[99]? = some c ∧ dC zs0 t c := ⟨_, _, rfl, zh99, ⟨_, rfl, fun j _ => c32 (by decide)⟩⟩
theorem zd100 : ∃ t c, cRT[100]? = some t ∧ zH0.1[100]? = some c ∧ dC zs0 t c := ⟨_, _, rfl, zh100, ⟨_, rfl, fun j _ => c32 (by decide)⟩⟩
theorem zd101 : ∃ t c, cRT[101]? = some t ∧ zH0.1[101]? = some c ∧ dC zs0 t c := ⟨_, _, rfl, zh101, ⟨_, rfl, fun j _ => c32 (by decide)⟩⟩
theorem zd102 : ∃ t c, cRT[102]? = some t ∧ zH0.1[102]? = some c ∧ dC zs0 t c := ⟨_, _, rfl, zh102, ⟨_, rfl, fun j _ => c32 (by decide)⟩⟩
theorem zd103 : ∃ t c, cRT[103]? = some t ∧ zH0.1[103]? = some c ∧ dC zs0 t c := ⟨_, _, rfl, zh103, ⟨_, rfl, fun j _ => c32 (by decide)⟩⟩
theorem zd104 : ∃ t c, cRT[104]? = some t ∧ zH0.1[104]? = some c ∧ dC zs0 t c := ⟨_, _, rfl, zh104, ⟨_, rfl, fun j _ => c32 (by decide)⟩⟩
theorem zd105 : ∃ t c, cRT[105]? = some t ∧ zH0.1[105]? = some c ∧ dC zs0 t c := ⟨_, _, rfl, zh105, ⟨_, rfl, fun j _ => c32 (by decide)⟩⟩
theorem zd106 : ∃ t c, cRT[106]? = some t ∧ zH0.1[106]? = some c ∧ dC zs0 t c := ⟨_, _, rfl, zh106, ⟨_, rfl, fun j _ => c32 (by decide)⟩⟩
theorem zd107 : ∃ t c, cRT[107]? = some t ∧ zH0.1[107]? = some c ∧ dC zs0 t c := ⟨_, _, rfl, zh107, ⟨_, rfl, fun j _ => c32 (by decide)⟩⟩
theorem zd108 : ∃ t c, cRT[108]? = some t ∧ zH0.1[108]? = some c ∧ dC zs0 t c := ⟨_, _, rfl, zh108, ⟨_, rfl, fun j _ => c32 (by decide)⟩⟩
theorem zd109 : ∃ t c, cRT[109]? = some t ∧ zH0.1[109]? = some c ∧ dC zs0 t c := ⟨_, _, rfl, zh109, ⟨_, rfl, fun j _ => c32 (by decide)⟩⟩
theorem zd110 : ∃ t c, cRT[110]? = some t ∧ zH0.1[110]? = some c ∧ dC zs0 t c := ⟨_, _, rfl, zh110, ⟨_, rfl, fun j _ => c32 (by decide)⟩⟩
theorem zd111 : ∃ t c, cRT[111]? = some t ∧ zH0.1[111]? = some c ∧ dC zs0 t c := ⟨_, _, rfl, zh111, ⟨_, rfl, fun j _ => c32 (by decide)⟩⟩
theorem zd112 : ∃ t c, cRT[112]? = some t ∧ zH0.1[112]? = some c ∧ dC zs0 t c := ⟨_, _, rfl, zh112, ⟨_, rfl, fun j _ => c32 (by decide)⟩⟩
theorem zd113 : ∃ t c, cRT[113]? = some t ∧ zH0.1[113]? = some c ∧ dC zs0 t c := ⟨_, _, rfl, zh113, ⟨_, rfl, fun j _ => c32 (by decide)⟩⟩
theorem zd114 : ∃ t c, cRT[114]? = some t ∧ zH0.1[114]? = some c ∧ dC zs0 t c := ⟨_, _, rfl, zh114, ⟨_, rfl, fun j _ => c32 (by decide)⟩⟩
theorem zd115 : ∃ t c, cRT[115]? = some t ∧ zH0.1[115]? = some c ∧ dC zs0 t c := ⟨_, _, rfl, zh115, ⟨_, rfl, fun j _ => c32 (by decide)⟩⟩
theorem zd116 : ∃ t c, cRT[116]? = some t ∧ zH0.1[116]? = some c ∧ dC zs0 t c := ⟨_, _, rfl, zh116, ⟨_, rfl, fun j _ => c32 (by decide)⟩⟩
theorem zd117 : ∃ t c, cRT[117]? = some t ∧ zH0.1[117]? = some c ∧ dC zs0 t c := ⟨_, _, rfl, zh117, ⟨_, rfl, fun j _ => c32 (by decide)⟩⟩
theorem zd118 : ∃ t c, cRT[118]? = some t ∧ zH0.1[118]? = some c ∧ dC zs0 t c := ⟨_, _, rfl, zh118, ⟨_, rfl, fun j _ => c32 (by decide)⟩⟩
theorem zd119 : ∃ t c, cRT[119]? = some t ∧ zH0.1[119]? = some c ∧ dC zs0 t c := ⟨_, _, rfl, zh119, ⟨_, rfl, fun j _ => c32 (by decide)⟩⟩
theorem zd120 : ∃ t c, cRT[120]? = some t ∧ zH0.1[120]? = some c ∧ dC zs0 t c := ⟨_, _, rfl, zh120, ⟨_, rfl, fun j _ => c32 (by decide)⟩⟩
theorem zd121 : ∃ t c, cRT[121]? = some t ∧ zH0.1[121]? = some c ∧ dC zs0 t c := ⟨_, _, rfl, zh121, ⟨_, rfl, fun j _ => c32 (by decide)⟩⟩
theorem zd122 : ∃ t c, cRT[122]? = some t ∧ zH0.1[122]? = some c ∧ dC zs0 t c := ⟨_, _, rfl, zh122, ⟨_, rfl, fun j _ => c32 (by decide)⟩⟩
theorem zd123 : ∃ t c, cRT[123]? = some t ∧ zH0.1[123]? = some c ∧ dC zs0 t c := ⟨_, _, rfl, zh123, ⟨_, rfl, fun j _ => c32 (by decide)⟩⟩
theorem zd124 : ∃ t c, cRT[124]? = some t ∧ zH0.1[124]? = some c ∧ dC zs0 t c := ⟨_, _, rfl, zh124, ⟨_, rfl, fun j _ => c32 (by decide)⟩⟩
theorem zd125 : ∃ t c, cRT[125]? = some t ∧ zH0.1[125]? = some c ∧ dC zs0 t c := ⟨_, _, rfl, zh125, ⟨_, rfl, fun j _ => c32 (by decide)⟩⟩
theorem zd126 : ∃ t c, cRT[126]? = some t ∧ zH0.1[126]? = some c ∧ dC zs0 t c := ⟨_, _, rfl, zh126, ⟨_, rfl, fun j _ => c32 (by decide)⟩⟩
theorem zd127 : ∃ t c, cRT[127]? = some t ∧ zH0.1[127]? = some c ∧ dC zs0 t c := ⟨_, _, rfl, zh127, ⟨_, rfl, fun j _ => c32 (by decide)⟩⟩
theorem zd128 : ∃ t c, cRT[128]? = some t ∧ zH0.1[128]? = some c ∧ dC zs0 t c := ⟨_, _, rfl, zh128, ⟨_, rfl, fun j _ => c32 (by decide)⟩⟩
theorem zd129 : ∃ t c, cRT[129]? = some t ∧ zH0.1[129]? = some c ∧ dC zs0 t c := ⟨_, _, rfl, zh129, ⟨_, rfl, fun j _ => c32 (by decide)⟩⟩
theorem zd130 : ∃ t c, cRT[130]? = some t ∧ zH0.1[130]? = some c ∧ dC zs0 t c := ⟨_, _, rfl, zh130, ⟨_, rfl, fun j _ => c64 (by decide)⟩⟩
theorem zd131 : ∃ t c, cRT[131]? = some t ∧ zH0.1[131]? = some c ∧ dC zs0 t c := ⟨_, _, rfl, zh131, ⟨_, rfl, fun j _ => c64 (by decide)⟩⟩
theorem zd132 : ∃ t c, cRT[132]? = some t ∧ zH0.1[132]? = some c ∧ dC zs0 t c := ⟨_, _, rfl, zh132, ⟨_, rfl, fun j _ => c32 (by decide)⟩⟩
theorem zd133 : ∃ t c, cRT[133]? = some t ∧ zH0.1[133]? = some c ∧ dC zs0 t c := ⟨_, _, rfl, zh133, ⟨_, rfl, fun j _ => c32 (by decide)⟩⟩
theorem zd134 : ∃ t c, cRT[134]? = some t ∧ zH0.1[134]? = some c ∧ dC zs0 t c := ⟨_, _, rfl, zh134, ⟨_, rfl, fun j _ => c32 (by decide)⟩⟩
theorem zd135 : ∃ t c, cRT[135]? = some t ∧ zH0.1[135]? = some c ∧ dC zs0 t c := ⟨_, _, rfl, zh135, ⟨_, rfl, fun j _ => c32 (by decide)⟩⟩
theorem zd136 : ∃ t c, cRT[136]? = some t ∧ zH0.1[136]? = some c ∧ dC zs0 t c := ⟨_, _, rfl, zh136, ⟨_, rfl, fun j _ => c32 (by decide)⟩⟩
theorem zd137 : ∃ t c, cRT[137]? = some t ∧ zH0.1[137]? = some c ∧ dC zs0 t c := ⟨_, _, rfl, zh137, ⟨_, rfl, fun j _ => c32 (by decide)⟩⟩
theorem zd138 : ∃ t c, cRT[138]? = some t ∧ zH0.1[138]? = some c ∧ dC zs0 t c := ⟨_, _, rfl, zh138, ⟨_, rfl, fun j _ => c32 (by decide)⟩⟩
theorem zd139 : ∃ t c, cRT[139]? = some t ∧ zH0.1[139]? = some c ∧ dC zs0 t c := ⟨_, _, rfl, zh139, ⟨_, rfl, fun j _ => c32 (by decide)⟩⟩
theorem zd140 : ∃ t c, cRT[140]? = some t ∧ zH0.1[140]? = some c ∧ dC zs0 t c := ⟨_, _, rfl, zh140, ⟨_, rfl, fun j _ => c32 (by decide)⟩⟩
theorem zd141 : ∃ t c, cRT[141]? = some t ∧ zH0.1[141]? = some c ∧ dC zs0 t c := ⟨_, _, rfl, zh141, ⟨_, rfl, fun j _ => c32 (by decide)⟩⟩
theorem zd142 : ∃ t c, cRT[142]? = some t ∧ zH0.1[142]? = some c ∧ dC zs0 t c := ⟨_, _, rfl, zh142, ⟨_, rfl, fun j _ => c32 (by decide)⟩⟩
theorem zd143 : ∃ t c, cRT[143]? = some t ∧ zH0.1[143]? = some c ∧ dC zs0 t c := ⟨_, _, rfl, zh143, ⟨_, rfl, fun j _ => c32 (by decide)⟩⟩
theorem zd144 : ∃ t c, cRT[144]? = some t ∧ zH0.1[144]? = some c ∧ dC zs0 t c := ⟨_, _, rfl, zh144, ⟨_, rfl, fun j _ => c64 (by decide)⟩⟩
theorem zd145 : ∃ t c, cRT[145]? = some t ∧ zH0.1[145]? = some c ∧ dC zs0 t c := ⟨_, _, rfl, zh145, ⟨_, rfl, fun j _ => c64 (by decide)⟩⟩
theorem zd_all : ∀ q : Nat, q < 146 → ∃ t c, cRT[q]? = some t ∧ zH0.1[q]? = some c ∧ dC zs0 t c := by
  intro q hq
  match q, hq with
  | 0, _ => exact zd0
  | 1, _ => exact zd1
  | 2, _ => exact zd2
  | 3, _ => exact zd3
  | 4, _ => exact zd4
  | 5, _ => exact zd5
  | 6, _ => exact zd6
  | 7, _ => exact zd7
  | 8, _ => exact zd8
  | 9, _ => exact zd9
  | 10, _ => exact zd10
  | 11, _ => exact zd11
  | 12, _ => exact zd12
  | 13, _ => exact zd13
  | 14, _ => exact zd14
  | 15, _ => exact zd15
  | 16, _ => exact zd16
  | 17, _ => exact zd17
  | 18, _ => exact zd18
  | 19, _ => exact zd19
  | 20, _ => exact zd20
  | 21, _ => exact zd21
  | 22, _ => exact zd22
  | 23, _ => exact zd23
  | 24, _ => exact zd24
  | 25, _ => exact zd25
  | 26, _ => exact zd26
  | 27, _ => exact zd27
  | 28, _ => exact zd28
  | 29, _ => exact zd29
  | 30, _ => exact zd30
  | 31, _ => exact zd31
  | 32, _ => exact zd32
  | 33, _ => exact zd33
  | 34, _ => exact zd34
  | 35, _ => exact zd35
  | 36, _ => exact zd36
  | 37, _ => exact zd37
  | 38, _ => exact zd38
  | 39, _ => exact zd39
  | 40, _ => exact zd40
  | 41, _ => exact zd41
  | 42, _ => exact zd42
  | 43, _ => exact zd43
  | 44, _ => exact zd44
  | 45, _ => exact zd45
  | 46, _ => exact zd46
  | 47, _ => exact zd47
  | 48, _ => exact zd48
  | 49, _ => exact zd49
  | 50, _ => exact zd50
  | 51, _ => exact zd51
  | 52, _ => exact zd52
  | 53, _ => exact zd53
  | 54, _ => exact zd54
  | 55, _ => exact zd55
  | 56, _ => exact zd56
  | 57, _ => exact zd57
  | 58, _ => exact zd58
  | 59, _ => exact zd59
  | 60, _ => exact zd60
  | 61, _ => exact zd61
  | 62, _ => exact zd62
  | 63, _ => exact zd63
  | 64, _ => exact zd64
  | 65, _ => exact zd65
  | 66, _ => exact zd66
  | 67, _ => exact zd67
  | 68, _ => exact zd68
  | 69, _ => exact zd69
  | 70, _ => exact zd70
  | 71, _ => exact zd71
  | 72, _ => exact zd72
  | 73, _ => exact zd73
  | 74, _ => exact zd74
  | 75, _ => exact zd75
  | 76, _ => exact zd76
  | 77, _ => exact zd77
  | 78, _ => exact zd78
  | 79, _ => exact zd79
  | 80, _ => exact zd80
  | 81, _ => exact zd81
  | 82, _ => exact zd82
  | 83, _ => exact zd83
  | 84, _ => exact zd84
  | 85, _ => exact zd85
  | 86, _ => exact zd86
  | 87, _ => exact zd87
  | 88, _ => exact zd88
  | 89, _ => exact zd89
  | 90, _ => exact zd90
  | 91, _ => exact zd91
  | 92, _ => exact zd92
  | 93, _ => exact zd93
  | 94, _ => exact zd94
  | 95, _ => exact zd95
  | 96, _ => exact zd96
  | 97, _ => exact zd97
  | 98, _ => exact zd98
  | 99, _ => exact zd99
  | 100, _ => exact zd100
  | 101, _ => exact zd101
  | 102, _ => exact zd102
  | 103, _ => exact zd103
  | 104, _ => exact zd104
  | 105, _ => exact zd105
  | 106, _ => exact zd106
  | 107, _ => exact zd107
  | 108, _ => exact zd108
  | 109, _ => exact zd109
  | 110, _ => exact zd110
  | 111, _ => exact zd111
  | 112, _ => exact zd112
  | 113, _ => exact zd113
  | 114, _ => exact zd114
  | 115, _ => exact zd115
  | 116, _ => exact zd116
  | 117, _ => exact zd117
  | 118, _ => exact zd118
  | 119, _ => exact zd119
  | 120, _ => exact zd120
  | 121, _ => exact zd121
  | 122, _ => exact zd122
  | 123, _ => exact zd123
  | 124, _ => exact zd124
  | 125, _ => exact zd125
  | 126, _ => exact zd126
  | 127, _ => exact zd127
  | 128, _ => exact zd128
  | 129, _ => exact zd129
  | 130, _ => exact zd130
  | 131, _ => exact zd131
  | 132, _ => exact zd132
  | 133, _ => exact zd133
  | 134, _ => exact zd134
  | 135, _ => exact zd135
  | 136, _ => exact zd136
  | 137, _ => exact zd137
  | 138, _ => exact zd138
  | 139, _ => exact zd139
  | 140, _ => exact zd140
  | 141, _ => exact zd141
  | 142, _ => exact zd142
  | 143, _ => exact zd143
  | 144, _ => exact zd144
  | 145, _ => exact zd145
  | q + 146, hq => exact absurd hq (by omega)
theorem zDI0 : dI zs0 zH0 := by
  refine ⟨⟨by rw [zH0_len]; exact List.length_range, fun q r e => ?_, fun q r e _ => (zs0_at e).1, fun r hr => zs0_of hr⟩, ⟨_, _, zh69, zh70, fun j _ h1 _ => absurd h1 (by decide)⟩, ⟨_, _, _, _, _, _, _, zh122, zh123, zh120, zh121, zh119, zh72, rfl, fun t ht => absurd ht ?_⟩⟩
  · obtain ⟨rfl, hq⟩ := zs0_at e
    exact zd_all q hq
  · rw [show ((0 : Int32)).toInt = 0 by decide]
    omega
theorem zPh0 : dPh zH0 = 97319 := by
  have e1 : dNul zH0 42 10 = 10 := by unfold dNul; rw [zh42]; rfl
  have e2 : dNul zH0 65 150 = 150 := by unfold dNul; rw [zh65]; decide +kernel
  unfold dPh
  rw [e1, e2, zH0_len]
  rfl

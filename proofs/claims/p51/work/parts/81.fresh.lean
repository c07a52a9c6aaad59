-- ===== 81.fresh: 6 texts =====
section
-- ===== the fresh heap is well typed =====
def zs0 : List Nat := List.range 146
theorem zs0_at {q r : Nat} (h : zs0[q]? = some r) : q = r ∧ q < 146 := by
  unfold zs0 at h
  have hq := (List.getElem?_eq_some_iff.mp h).1
  rw [List.length_range] at hq
  rw [List.getElem?_range hq] at h
  exact ⟨Option.some.inj h, hq⟩
theorem zs0_of {r : Nat} (h : r < 146) : zs0[r]? = some r := List.getElem?_range h
theorem c32 {lo hi : Int} {c : Int32} (h : (decide (lo ≤ c.toInt) && decide (c.toInt ≤ hi)) = true) : lo ≤ c.toInt ∧ c.toInt ≤ hi := by
  rw [Bool.and_eq_true, decide_eq_true_eq, decide_eq_true_eq] at h
  exact h
theorem c64 {lo hi : Int} {c : Int64} (h : (decide (lo ≤ c.toInt) && decide (c.toInt ≤ hi)) = true) : lo ≤ c.toInt ∧ c.toInt ≤ hi := by
  rw [Bool.and_eq_true, decide_eq_true_eq, decide_eq_true_eq] at h
  exact h
set_option maxRecDepth 4000 in
theorem zd0 : ∃ t c, cRT[0]? = some t ∧ zH0.1[0]? = some c ∧ dC zs0 t c := by
  refine ⟨_, _, rfl, zh0, ⟨_, rfl, rfl, fun i ty e => ?_⟩⟩
  match i, e with
  | 0, e => cases e; exact ⟨_, rfl, _, rfl, zs0_of (by decide)⟩
  | 1, e => cases e; exact ⟨_, rfl, _, rfl, zs0_of (by decide)⟩
  | 2, e => cases e; exact ⟨_, rfl, _, rfl, zs0_of (by decide)⟩
  | 3, e => cases e; exact ⟨_, rfl, _, rfl, zs0_of (by decide)⟩
  | 4, e => cases e; exact ⟨_, rfl, _, rfl, zs0_of (by decide)⟩
  | 5, e => cases e; exact ⟨_, rfl, _, rfl, zs0_of (by decide)⟩
  | 6, e => cases e; exact ⟨_, rfl, _, rfl, zs0_of (by decide)⟩
  | 7, e => cases e; exact ⟨_, rfl, _, rfl, zs0_of (by decide)⟩
  | 8, e => cases e; exact ⟨_, rfl, _, rfl, zs0_of (by decide)⟩
  | 9, e => cases e; exact ⟨_, rfl, _, rfl, zs0_of (by decide)⟩
  | i + 10, e => simp at e
set_option maxRecDepth 4000 in
theorem zd1 : ∃ t c, cRT[1]? = some t ∧ zH0.1[1]? = some c ∧ dC zs0 t c := by
  refine ⟨_, _, rfl, zh1, ⟨_, rfl, rfl, fun i ty e => ?_⟩⟩
  match i, e with
  | 0, e => cases e; exact ⟨_, rfl, _, rfl, c32 (by decide)⟩
  | 1, e => cases e; exact ⟨_, rfl, _, rfl, c32 (by decide)⟩
  | 2, e => cases e; exact ⟨_, rfl, _, rfl, c32 (by decide)⟩
  | 3, e => cases e; exact ⟨_, rfl, _, rfl, c32 (by decide)⟩
  | 4, e => cases e; exact ⟨_, rfl, _, rfl, c32 (by decide)⟩
  | 5, e => cases e; exact ⟨_, rfl, _, rfl, c32 (by decide)⟩
  | 6, e => cases e; exact ⟨_, rfl, _, rfl, c32 (by decide)⟩
  | 7, e => cases e; exact ⟨_, rfl, _, rfl, zs0_of (by decide)⟩
  | 8, e => cases e; exact ⟨_, rfl, _, rfl, zs0_of (by decide)⟩
  | 9, e => cases e; exact ⟨_, rfl, _, rfl, zs0_of (by decide)⟩
  | 10, e => cases e; exact ⟨_, rfl, _, rfl, zs0_of (by decide)⟩
  | 11, e => cases e; exact ⟨_, rfl, _, rfl, zs0_of (by decide)⟩
  | 12, e => cases e; exact ⟨_, rfl, _, rfl, zs0_of (by decide)⟩
  | 13, e => cases e; exact ⟨_, rfl, _, rfl, zs0_of (by decide)⟩
  | 14, e => cases e; exact ⟨_, rfl, _, rfl, zs0_of (by decide)⟩
  | 15, e => cases e; exact ⟨_, rfl, _, rfl, zs0_of (by decide)⟩
  | 16, e => cases e; exact ⟨_, rfl, _, rfl, zs0_of (by decide)⟩
  | 17, e => cases e; exact ⟨_, rfl, _, rfl, zs0_of (by decide)⟩
  | i + 18, e => simp at e
theorem zd2 : ∃ t c, cRT[2]? = some t ∧ zH0.1[2]? = some c ∧ dC zs0 t c := ⟨_, _, rfl, zh2, ⟨_, rfl, fun j _ => c32 (by decide)⟩⟩
theorem zd3 : ∃ t c, cRT[3]? = some t ∧ zH0.1[3]? = some c ∧ dC zs0 t c := ⟨_, _, rfl, zh3, ⟨_, rfl, fun j _ => c32 (by decide)⟩⟩
theorem zd4 : ∃ t c, cRT[4]? = some t ∧ zH0.1[4]? = some c ∧ dC zs0 t c := ⟨_, _, rfl, zh4, ⟨_, rfl, fun j _ => c32 (by decide)⟩⟩
theorem zd5 : ∃ t c, cRT[5]? = some t ∧ zH0.1[5]? = some c ∧ dC zs0 t c := ⟨_, _, rfl, zh5, ⟨_, rfl, fun j _ => c32 (by decide)⟩⟩
theorem zd6 : ∃ t c, cRT[6]? = some t ∧ zH0.1[6]? = some c ∧ dC zs0 t c := ⟨_, _, rfl, zh6, ⟨_, rfl, fun j _ => c32 (by decide)⟩⟩
theorem zd7 : ∃ t c, cRT[7]? = some t ∧ zH0.1[7]? = some c ∧ dC zs0 t c := ⟨_, _, rfl, zh7, ⟨_, rfl, fun j _ => c32 (by decide)⟩⟩
theorem zd8 : ∃ t c, cRT[8]? = some t ∧ zH0.1[8]? = some c ∧ dC zs0 t c := ⟨_, _, rfl, zh8, ⟨_, rfl, fun j _ => c32 (by decide)⟩⟩
theorem zd9 : ∃ t c, cRT[9]? = some t ∧ zH0.1[9]? = some c ∧ dC zs0 t c := ⟨_, _, rfl, zh9, ⟨_, rfl, fun j _ => c32 (by decide)⟩⟩
theorem zd10 : ∃ t c, cRT[10]? = some t ∧ zH0.1[10]? = some c ∧ dC zs0 t c := ⟨_, _, rfl, zh10, ⟨_, rfl, fun j _ => c32 (by decide)⟩⟩
theorem zd11 : ∃ t c, cRT[11]? = some t ∧ zH0.1[11]? = some c ∧ dC zs0 t c := ⟨_, _, rfl, zh11, ⟨_, rfl, fun j _ => c32 (by decide)⟩⟩
theorem zd12 : ∃ t c, cRT[12]? = some t ∧ zH0.1[12]? = some c ∧ dC zs0 t c := ⟨_, _, rfl, zh12, ⟨_, rfl, fun j _ => c32 (by decide)⟩⟩
set_option maxRecDepth 4000 in
theorem zd13 : ∃ t c, cRT[13]? = some t ∧ zH0.1[13]? = some c ∧ dC zs0 t c := by
  refine ⟨_, _, rfl, zh13, ⟨_, rfl, rfl, fun i ty e => ?_⟩⟩
  match i, e with
  | 0, e => cases e; exact ⟨_, rfl, _, rfl, zs0_of (by decide)⟩
  | 1, e => cases e; exact ⟨_, rfl, _, rfl, zs0_of (by decide)⟩
  | 2, e => cases e; exact ⟨_, rfl, _, rfl, c32 (by decide)⟩
  | i + 3, e => simp at e
theorem zd14 : ∃ t c, cRT[14]? = some t ∧ zH0.1[14]? = some c ∧ dC zs0 t c := ⟨_, _, rfl, zh14, ⟨_, rfl, fun j _ => c32 (by decide)⟩⟩
theorem zd15 : ∃ t c, cRT[15]? = some t ∧ zH0.1[15]? = some c ∧ dC zs0 t c := ⟨_, _, rfl, zh15, ⟨_, rfl, fun j _ => c32 (by decide)⟩⟩
set_option maxRecDepth 4000 in
theorem zd16 : ∃ t c, cRT[16]? = some t ∧ zH0.1[16]? = some c ∧ dC zs0 t c := by
  refine ⟨_, _, rfl, zh16, ⟨_, rfl, rfl, fun i ty e => ?_⟩⟩
  match i, e with
  | 0, e => cases e; exact ⟨_, rfl, _, rfl, zs0_of (by decide)⟩
  | 1, e => cases e; exact ⟨_, rfl, _, rfl, c32 (by decide)⟩
  | 2, e => cases e; exact ⟨_, rfl, _, rfl, c32 (by decide)⟩
  | 3, e => cases e; exact ⟨_, rfl, _, rfl, c32 (by decide)⟩
  | 4, e => cases e; exact ⟨_, rfl, _, rfl, zs0_of (by decide)⟩
  | 5, e => cases e; exact ⟨_, rfl, _, rfl, zs0_of (by decide)⟩
  | 6, e => cases e; exact ⟨_, rfl, _, rfl, zs0_of (by decide)⟩
  | 7, e => cases e; exact ⟨_, rfl, _, rfl, zs0_of (by decide)⟩
  | 8, e => cases e; exact ⟨_, rfl, _, rfl, zs0_of (by decide)⟩
  | 9, e => cases e; exact ⟨_, rfl, _, rfl, zs0_of (by decide)⟩
  | 10, e => cases e; exact ⟨_, rfl, _, rfl, zs0_of (by decide)⟩
  | 11, e => cases e; exact ⟨_, rfl, _, rfl, zs0_of (by decide)⟩
  | 12, e => cases e; exact ⟨_, rfl, _, rfl, zs0_of (by decide)⟩
  | 13, e => cases e; exact ⟨_, rfl, _, rfl, zs0_of (by decide)⟩
  | 14, e => cases e; exact ⟨_, rfl, _, rfl, zs0_of (by decide)⟩
  | 15, e => cases e; exact ⟨_, rfl, _, rfl, zs0_of (by decide)⟩
  | 16, e => cases e; exact ⟨_, rfl, _, rfl, zs0_of (by decide)⟩
  | 17, e => cases e; exact ⟨_, rfl, _, rfl, zs0_of (by decide)⟩
  | 18, e => cases e; exact ⟨_, rfl, _, rfl, zs0_of (by decide)⟩
  | 19, e => cases e; exact ⟨_, rfl, _, rfl, zs0_of (by decide)⟩
  | i + 20, e => simp at e
theorem zd17 : ∃ t c, cRT[17]? = some t ∧ zH0.1[17]? = some c ∧ dC zs0 t c := ⟨_, _, rfl, zh17, ⟨_, rfl, fun j _ => c32 (by decide)⟩⟩
theorem zd18 : ∃ t c, cRT[18]? = some t ∧ zH0.1[18]? = some c ∧ dC zs0 t c := ⟨_, _, rfl, zh18, ⟨_, rfl, fun j _ => c32 (by decide)⟩⟩
theorem zd19 : ∃ t c, cRT[19]? = some t ∧ zH0.1[19]? = some c ∧ dC zs0 t c := ⟨_, _, rfl, zh19, ⟨_, rfl, fun j _ => c32 (by decide)⟩⟩
theorem zd20 : ∃ t c, cRT[20]? = some t ∧ zH0.1[20]? = some c ∧ dC zs0 t c := ⟨_, _, rfl, zh20, ⟨_, rfl, fun j _ => c32 (by decide)⟩⟩
theorem zd21 : ∃ t c, cRT[21]? = some t ∧ zH0.1[21]? = some c ∧ dC zs0 t c := ⟨_, _, rfl, zh21, ⟨_, rfl, fun j _ => c32 (by decide)⟩⟩
theorem zd22 : ∃ t c, cRT[22]? = some t ∧ zH0.1[22]? = some c ∧ dC zs0 t c := ⟨_, _, rfl, zh22, ⟨_, rfl, fun j _ => c32 (by decide)⟩⟩
theorem zd23 : ∃ t c, cRT[23]? = some t ∧ zH0.1[23]? = some c ∧ dC zs0 t c := ⟨_, _, rfl, zh23, ⟨_, rfl, fun j _ => c32 (by decide)⟩⟩
theorem zd24 : ∃ t c, cRT[24]? = some t ∧ zH0.1[24]? = some c ∧ dC zs0 t c := ⟨_, _, rfl, zh24, ⟨_, rfl, fun j _ => c32 (by decide)⟩⟩
theorem zd25 : ∃ t c, cRT[25]? = some t ∧ zH0.1[25]? = some c ∧ dC zs0 t c := ⟨_, _, rfl, zh25, ⟨_, rfl, fun j _ => c32 (by decide)⟩⟩
theorem zd26 : ∃ t c, cRT[26]? = some t ∧ zH0.1[26]? = some c ∧ dC zs0 t c := ⟨_, _, rfl, zh26, ⟨_, rfl, fun j _ => c32 (by decide)⟩⟩
theorem zd27 : ∃ t c, cRT[27]? = some t ∧ zH0.1[27]? = some c ∧ dC zs0 t c := ⟨_, _, rfl, zh27, ⟨_, rfl, fun j _ => c32 (by decide)⟩⟩
theorem zd28 : ∃ t c, cRT[28]? = some t ∧ zH0.1[28]? = some c ∧ dC zs0 t c := ⟨_, _, rfl, zh28, ⟨_, rfl, fun j _ => c32 (by decide)⟩⟩
theorem zd29 : ∃ t c, cRT[29]? = some t ∧ zH0.1[29]? = some c ∧ dC zs0 t c := ⟨_, _, rfl, zh29, ⟨_, rfl, fun j _ => c32 (by decide)⟩⟩
theorem zd30 : ∃ t c, cRT[30]? = some t ∧ zH0.1[30]? = some c ∧ dC zs0 t c := ⟨_, _, rfl, zh30, ⟨_, rfl, fun j _ => c32 (by decide)⟩⟩
theorem zd31 : ∃ t c, cRT[31]? = some t ∧ zH0.1[31]? = some c ∧ dC zs0 t c := ⟨_, _, rfl, zh31, ⟨_, rfl, fun j _ => c32 (by decide)⟩⟩
theorem zd32 : ∃ t c, cRT[32]? = some t ∧ zH0.1[32]? = some c ∧ dC zs0 t c := ⟨_, _, rfl, zh32, ⟨_, rfl, fun j _ => c32 (by decide)⟩⟩
set_option maxRecDepth 4000 in
theorem zd33 : ∃ t c, cRT[33]? = some t ∧ zH0.1[33]? = some c ∧ dC zs0 t c := by
  refine ⟨_, _, rfl, zh33, ⟨_, rfl, rfl, fun i ty e => ?_⟩⟩
  match i, e with
  | 0, e => cases e; exact ⟨_, rfl, _, rfl, zs0_of (by decide)⟩
  | 1, e => cases e; exact ⟨_, rfl, _, rfl, c32 (by decide)⟩
  | 2, e => cases e; exact ⟨_, rfl, _, rfl, zs0_of (by decide)⟩
  | 3, e => cases e; exact ⟨_, rfl, _, rfl, zs0_of (by decide)⟩
  | 4, e => cases e; exact ⟨_, rfl, _, rfl, zs0_of (by decide)⟩
  | 5, e => cases e; exact ⟨_, rfl, _, rfl, zs0_of (by decide)⟩
  | 6, e => cases e; exact ⟨_, rfl, _, rfl, zs0_of (by decide)⟩
  | 7, e => cases e; exact ⟨_, rfl, _, rfl, c32 (by decide)⟩
  | 8, e => cases e; exact ⟨_, rfl, _, rfl, zs0_of (by decide)⟩
  | 9, e => cases e; exact ⟨_, rfl, _, rfl, c32 (by decide)⟩
  | 10, e => cases e; exact ⟨_, rfl, _, rfl, c32 (by decide)⟩
  | 11, e => cases e; exact ⟨_, rfl, _, rfl, c32 (by decide)⟩
  | 12, e => cases e; exact ⟨_, rfl, _, rfl, c32 (by decide)⟩
  | 13, e => cases e; exact ⟨_, rfl, Or.inl rfl⟩
  | 14, e => cases e; exact ⟨_, rfl, _, rfl, c32 (by decide)⟩
  | i + 15, e => simp at e
theorem zd34 : ∃ t c, cRT[34]? = some t ∧ zH0.1[34]? = some c ∧ dC zs0 t c := ⟨_, _, rfl, zh34, ⟨_, rfl, fun j _ => c32 (by decide)⟩⟩
theorem zd35 : ∃ t c, cRT[35]? = some t ∧ zH0.1[35]? = some c ∧ dC zs0 t c := ⟨_, _, rfl, zh35, ⟨_, rfl, fun j _ => c32 (by decide)⟩⟩
theorem zd36 : ∃ t c, cRT[36]? = some t ∧ zH0.1[36]? = some c ∧ dC zs0 t c := ⟨_, _, rfl, zh36, ⟨_, rfl, fun j _ => c32 (by decide)⟩⟩
theorem zd37 : ∃ t c, cRT[37]? = some t ∧ zH0.1[37]? = some c ∧ dC zs0 t c := ⟨_, _, rfl, zh37, ⟨_, rfl, fun j _ => c32 (by decide)⟩⟩
theorem zd38 : ∃ t c, cRT[38]? = some t ∧ zH0.1[38]? = some c ∧ dC zs0 t c := ⟨_, _, rfl, zh38, ⟨_, rfl, fun j _ => c32 (by decide)⟩⟩
theorem zd39 : ∃ t c, cRT[39]? = some t ∧ zH0.1[39]? = some c ∧ dC zs0 t c := ⟨_, _, rfl, zh39, ⟨_, rfl, fun j _ => c32 (by decide)⟩⟩
theorem zd40 : ∃ t c, cRT[40]? = some t ∧ zH0.1[40]? = some c ∧ dC zs0 t c := ⟨_, _, rfl, zh40, ⟨_, rfl, fun j _ => c32 (by decide)⟩⟩
set_option maxRecDepth 4000 in
theorem zd41 : ∃ t c, cRT[41]? = some t ∧ zH0.1[41]? = some c ∧ dC zs0 t c := by
  refine ⟨_, _, rfl, zh41, ⟨_, rfl, rfl, fun i ty e => ?_⟩⟩
  match i, e with
  | 0, e => cases e; exact ⟨_, rfl, _, rfl, zs0_of (by decide)⟩
  | 1, e => cases e; exact ⟨_, rfl, _, rfl, zs0_of (by decide)⟩
  | 2, e => cases e; exact ⟨_, rfl, _, rfl, zs0_of (by decide)⟩
  | 3, e => cases e; exact ⟨_, rfl, _, rfl, zs0_of (by decide)⟩
  | 4, e => cases e; exact ⟨_, rfl, _, rfl, zs0_of (by decide)⟩
  | 5, e => cases e; exact ⟨_, rfl, _, rfl, zs0_of (by decide)⟩
  | 6, e => cases e; exact ⟨_, rfl, _, rfl, zs0_of (by decide)⟩
  | 7, e => cases e; exact ⟨_, rfl, _, rfl, c32 (by decide)⟩
  | 8, e => cases e; exact ⟨_, rfl, _, rfl, zs0_of (by decide)⟩
  | 9, e => cases e; exact ⟨_, rfl, _, rfl, zs0_of (by decide)⟩
  | i + 10, e => simp at e
theorem zd42 : ∃ t c, cRT[42]? = some t ∧ zH0.1[42]? = some c ∧ dC zs0 t c := ⟨_, _, rfl, zh42, ⟨_, rfl, fun j q e => by cases e⟩⟩
theorem zd43 : ∃ t c, cRT[43]? = some t ∧ zH0.1[43]? = some c ∧ dC zs0 t c := ⟨_, _, rfl, zh43, ⟨_, rfl, fun j _ => c32 (by decide)⟩⟩
theorem zd44 : ∃ t c, cRT[44]? = some t ∧ zH0.1[44]? = some c ∧ dC zs0 t c := ⟨_, _, rfl, zh44, ⟨_, rfl, fun j _ => c32 (by decide)⟩⟩
theorem zd45 : ∃ t c, cRT[45]? = some t ∧ zH0.1[45]? = some c ∧ dC zs0 t c := ⟨_, _, rfl, zh45, ⟨_, rfl, fun j _ => c32 (by decide)⟩⟩
theorem zd46 : ∃ t c, cRT[46]? = some t ∧ zH0.1[46]? = some c ∧ dC zs0 t c := ⟨_, _, rfl, zh46, ⟨_, rfl, fun j _ => c32 (by decide)⟩⟩
theorem zd47 : ∃ t c, cRT[47]? = some t ∧ zH0.1[47]? = some c ∧ dC zs0 t c := ⟨_, _, rfl, zh47, ⟨_, rfl, fun j _ => c32 (by decide)⟩⟩
set_option maxRecDepth 4000 in
theorem zd48 : ∃ t c, cRT[48]? = some t ∧ zH0.1[48]? = some c ∧ dC zs0 t c := by
  refine ⟨_, _, rfl, zh48, ⟨_, rfl, rfl, fun i ty e => ?_⟩⟩
  match i, e with
  | 0, e => cases e; exact ⟨_, rfl, _, rfl, zs0_of (by decide)⟩
  | 1, e => cases e; exact ⟨_, rfl, _, rfl, zs0_of (by decide)⟩
  | 2, e => cases e; exact ⟨_, rfl, _, rfl, zs0_of (by decide)⟩
  | 3, e => cases e; exact ⟨_, rfl, _, rfl, zs0_of (by decide)⟩
  | 4, e => cases e; exact ⟨_, rfl, _, rfl, c32 (by decide)⟩
  | 5, e => cases e; exact ⟨_, rfl, _, rfl, zs0_of (by decide)⟩
  | 6, e => cases e; exact ⟨_, rfl, _, rfl, zs0_of (by decide)⟩
  | 7, e => cases e; exact ⟨_, rfl, _, rfl, c32 (by decide)⟩
  | 8, e => cases e; exact ⟨_, rfl, _, rfl, zs0_of (by decide)⟩
  | 9, e => cases e; exact ⟨_, rfl, _, rfl, c32 (by decide)⟩
  | 10, e => cases e; exact ⟨_, rfl, _, rfl, zs0_of (by decide)⟩
  | 11, e => cases e; exact ⟨_, rfl, _, rfl, zs0_of (by decide)⟩
  | 12, e => cases e; exact ⟨_, rfl, _, rfl, c32 (by decide)⟩
  | 13, e => cases e; exact ⟨_, rfl, _, rfl, c32 (by decide)⟩
  | 14, e => cases e; exact ⟨_, rfl, _, rfl, c32 (by decide)⟩
  | 15, e => cases e; exact ⟨_, rfl, _, rfl, c32 (by decide)⟩
  | 16, e => cases e; exact ⟨_, rfl, _, rfl, c32 (by decide)⟩
  | i + 17, e => simp at e
theorem zd49 : ∃ t c, cRT[49]? = some t ∧ zH0.1[49]? = some c ∧ dC zs0 t c := ⟨_, _, rfl, zh49, ⟨_, rfl, fun j _ => c32 (by decide)⟩⟩
theorem zd50 : ∃ t c, cRT[50]? = some t ∧ zH0.1[50]? = some c ∧ dC zs0 t c := ⟨_, _, rfl, zh50, ⟨_, rfl, fun j _ => c32 (by decide)⟩⟩
theorem zd51 : ∃ t c, cRT[51]? = some t ∧ zH0.1[51]? = some c ∧ dC zs0 t c := ⟨_, _, rfl, zh51, ⟨_, rfl, fun j _ => c32 (by decide)⟩⟩
theorem zd52 : ∃ t c, cRT[52]? = some t ∧ zH0.1[52]? = some c ∧ dC zs0 t c := ⟨_, _, rfl, zh52, ⟨_, rfl, fun j _ => c32 (by decide)⟩⟩
theorem zd53 : ∃ t c, cRT[53]? = some t ∧ zH0.1[53]? = some c ∧ dC zs0 t c := ⟨_, _, rfl, zh53, ⟨_, rfl, fun j _ => c32 (by decide)⟩⟩
theorem zd54 : ∃ t c, cRT[54]? = some t ∧ zH0.1[54]? = some c ∧ dC zs0 t c := ⟨_, _, rfl, zh54, ⟨_, rfl, fun j _ => c32 (by decide)⟩⟩
set_option maxRecDepth 4000 in
theorem zd55 : ∃ t c, cRT[55]? = some t ∧ zH0.1[55]? = some c ∧ dC zs0 t c := by
  refine ⟨_, _, rfl, zh55, ⟨_, rfl, rfl, fun i ty e => ?_⟩⟩
  match i, e with
  | 0, e => cases e; exact ⟨_, rfl, _, rfl, zs0_of (by decide)⟩
  | 1, e => cases e; exact ⟨_, rfl, _, rfl, c32 (by decide)⟩
  | 2, e => cases e; exact ⟨_, rfl, _, rfl, zs0_of (by decide)⟩
  | 3, e => cases e; exact ⟨_, rfl, _, rfl, zs0_of (by decide)⟩
  | 4, e => cases e; exact ⟨_, rfl, _, rfl, c32 (by decide)⟩
  | 5, e => cases e; exact ⟨_, rfl, _, rfl, zs0_of (by decide)⟩
  | 6, e => cases e; exact ⟨_, rfl, _, rfl, zs0_of (by decide)⟩
  | 7, e => cases e; exact ⟨_, rfl, _, rfl, zs0_of (by decide)⟩
  | 8, e => cases e; exact ⟨_, rfl, _, rfl, zs0_of (by decide)⟩
  | 9, e => cases e; exact ⟨_, rfl, _, rfl, c32 (by decide)⟩
  | 10, e => cases e; exact ⟨_, rfl, _, rfl, c32 (by decide)⟩
  | 11, e => cases e; exact ⟨_, rfl, _, rfl, c32 (by decide)⟩
  | i + 12, e => simp at e
theorem zd56 : ∃ t c, cRT[56]? = some t ∧ zH0.1[56]? = some c ∧ dC zs0 t c := ⟨_, _, rfl, zh56, ⟨_, rfl, fun j _ => c32 (by decide)⟩⟩
theorem zd57 : ∃ t c, cRT[57]? = some t ∧ zH0.1[57]? = some c ∧ dC zs0 t c := ⟨_, _, rfl, zh57, ⟨_, rfl, fun j _ => c32 (by decide)⟩⟩
theorem zd58 : ∃ t c, cRT[58]? = some t ∧ zH0.1[58]? = some c ∧ dC zs0 t c := ⟨_, _, rfl, zh58, ⟨_, rfl, fun j _ => c32 (by decide)⟩⟩
theorem zd59 : ∃ t c, cRT[59]? = some t ∧ zH0.1[59]? = some c ∧ dC zs0 t c := ⟨_, _, rfl, zh59, ⟨_, rfl, fun j hj => by
  have hj : j < 8 := hj
  match j, hj with
  | 0, _ => exact c32 (by decide)
  | 1, _ => exact c32 (by decide)
  | 2, _ => exact c32 (by decide)
  | 3, _ => exact c32 (by decide)
  | 4, _ => exact c32 (by decide)
  | 5, _ => exact c32 (by decide)
  | 6, _ => exact c32 (by decide)
  | 7, _ => exact c32 (by decide)⟩⟩
theorem zd60 : ∃ t c, cRT[60]? = some t ∧ zH0.1[60]? = some c ∧ dC zs0 t c := ⟨_, _, rfl, zh60, ⟨_, rfl, fun j _ => c32 (by decide)⟩⟩
theorem zd61 : ∃ t c, cRT[61]? = some t ∧ zH0.1[61]? = some c ∧ dC zs0 t c := ⟨_, _, rfl, zh61, ⟨_, rfl, fun j _ => c32 (by decide)⟩⟩
theorem zd62 : ∃ t c, cRT[62]? = some t ∧ zH0.1[62]? = some c ∧ dC zs0 t c := ⟨_, _, rfl, zh62, ⟨_, rfl, fun j _ => c32 (by decide)⟩⟩
set_option maxRecDepth 4000 in
theorem zd63 : ∃ t c, cRT[63]? = some t ∧ zH0.1[63]? = some c ∧ dC zs0 t c := by
  refine ⟨_, _, rfl, zh63, ⟨_, rfl, rfl, fun i ty e => ?_⟩⟩
  match i, e with
  | 0, e => cases e; exact ⟨_, rfl, _, rfl, zs0_of (by decide)⟩
  | 1, e => cases e; exact ⟨_, rfl, _, rfl, c32 (by decide)⟩
  | 2, e => cases e; exact ⟨_, rfl, _, rfl, zs0_of (by decide)⟩
  | i + 3, e => simp at e
theorem zd64 : ∃ t c, cRT[64]? = some t ∧ zH0.1[64]? = some c ∧ dC zs0 t c := ⟨_, _, rfl, zh64, ⟨_, rfl, fun j _ => c32 (by decide)⟩⟩
theorem zd65 : ∃ t c, cRT[65]? = some t ∧ zH0.1[65]? = some c ∧ dC zs0 t c := ⟨_, _, rfl, zh65, ⟨_, rfl, fun j q e => by cases e⟩⟩
set_option maxRecDepth 4000 in
theorem zd66 : ∃ t c, cRT[66]? = some t ∧ zH0.1[66]? = some c ∧ dC zs0 t c := by
  refine ⟨_, _, rfl, zh66, ⟨_, rfl, rfl, fun i ty e => ?_⟩⟩
  match i, e with
  | 0, e => cases e; exact ⟨_, rfl, _, rfl, zs0_of (by decide)⟩
  | 1, e => cases e; exact ⟨_, rfl, _, rfl, c32 (by decide)⟩
  | 2, e => cases e; exact ⟨_, rfl, _, rfl, c32 (by decide)⟩
  | 3, e => cases e; exact ⟨_, rfl, _, rfl, c32 (by decide)⟩
  | 4, e => cases e; exact ⟨_, rfl, _, rfl, c32 (by decide)⟩
  | i + 5, e => simp at e
theorem zd67 : ∃ t c, cRT[67]? = some t ∧ zH0.1[67]? = some c ∧ dC zs0 t c := ⟨_, _, rfl, zh67, ⟨_, rfl, fun j _ => c32 (by decide)⟩⟩
set_option maxRecDepth 4000 in
theorem zd68 : ∃ t c, cRT[68]? = some t ∧ zH0.1[68]? = some c ∧ dC zs0 t c := by
  refine ⟨_, _, rfl, zh68, ⟨_, rfl, rfl, fun i ty e => ?_⟩⟩
  match i, e with
  | 0, e => cases e; exact ⟨_, rfl, _, rfl, zs0_of (by decide)⟩
  | 1, e => cases e; exact ⟨_, rfl, _, rfl, zs0_of (by decide)⟩
  | 2, e => cases e; exact ⟨_, rfl, _, rfl, zs0_of (by decide)⟩
  | i + 3, e => simp at e
theorem zd69 : ∃ t c, cRT[69]? = some t ∧ zH0.1[69]? = some c ∧ dC zs0 t c := ⟨_, _, rfl, zh69, ⟨_, rfl, fun j _ => c32 (by decide)⟩⟩
theorem zd70 : ∃ t c, cRT[70]? = some t ∧ zH0.1[70]? = some c ∧ dC zs0 t c := ⟨_, _, rfl, zh70, ⟨_, rfl, fun j _ => c32 (by decide)⟩⟩
theorem zd71 : ∃ t c, cRT[71]? = some t ∧ zH0.1[71]? = some c ∧ dC zs0 t c := ⟨_, _, rfl, zh71, ⟨_, rfl, fun j _ => c64 (by decide)⟩⟩
set_option maxRecDepth 4000 in
theorem zd72 : ∃ t c, cRT[72]? = some t ∧ zH0.1[72]? = some c ∧ dC zs0 t c := by
  refine ⟨_, _, rfl, zh72, ⟨_, rfl, rfl, fun i ty e => ?_⟩⟩
  match i, e with
  | 0, e => cases e; exact ⟨_, rfl, _, rfl, c32 (by decide)⟩
  | 1, e => cases e; exact ⟨_, rfl, _, rfl, c32 (by decide)⟩
  | 2, e => cases e; exact ⟨_, rfl, _, rfl, c32 (by decide)⟩
  | 3, e => cases e; exact ⟨_, rfl, _, rfl, zs0_of (by decide)⟩
  | 4, e => cases e; exact ⟨_, rfl, _, rfl, zs0_of (by decide)⟩
  | 5, e => cases e; exact ⟨_, rfl, _, rfl, zs0_of (by decide)⟩
  | 6, e => cases e; exact ⟨_, rfl, _, rfl, zs0_of (by decide)⟩
  | 7, e => cases e; exact ⟨_, rfl, _, rfl, zs0_of (by decide)⟩
  | 8, e => cases e; exact ⟨_, rfl, _, rfl, zs0_of (by decide)⟩
  | 9, e => cases e; exact ⟨_, rfl, _, rfl, zs0_of (by decide)⟩
  | 10, e => cases e; exact ⟨_, rfl, _, rfl, zs0_of (by decide)⟩
  | 11, e => cases e; exact ⟨_, rfl, _, rfl, c32 (by decide)⟩
  | 12, e => cases e; exact ⟨_, rfl, _, rfl, zs0_of (by decide)⟩
  | 13, e => cases e; exact ⟨_, rfl, _, rfl, zs0_of (by decide)⟩
  | 14, e => cases e; exact ⟨_, rfl, _, rfl, c32 (by decide)⟩
  | 15, e => cases e; exact ⟨_, rfl, _, rfl, zs0_of (by decide)⟩
  | 16, e => cases e; exact ⟨_, rfl, _, rfl, zs0_of (by decide)⟩
  | 17, e => cases e; exact ⟨_, rfl, _, rfl, zs0_of (by decide)⟩
  | 18, e => cases e; exact ⟨_, rfl, _, rfl, zs0_of (by decide)⟩
  | 19, e => cases e; exact ⟨_, rfl, _, rfl, c32 (by decide)⟩
  | 20, e => cases e; exact ⟨_, rfl, _, rfl, zs0_of (by decide)⟩
  | 21, e => cases e; exact ⟨_, rfl, _, rfl, zs0_of (by decide)⟩
  | 22, e => cases e; exact ⟨_, rfl, _, rfl, zs0_of (by decide)⟩
  | 23, e => cases e; exact ⟨_, rfl, _, rfl, zs0_of (by decide)⟩
  | 24, e => cases e; exact ⟨_, rfl, _, rfl, zs0_of (by decide)⟩
  | 25, e => cases e; exact ⟨_, rfl, _, rfl, c32 (by decide)⟩
  | 26, e => cases e; exact ⟨_, rfl, _, rfl, zs0_of (by decide)⟩
  | 27, e => cases e; exact ⟨_, rfl, _, rfl, zs0_of (by decide)⟩
  | 28, e => cases e; exact ⟨_, rfl, _, rfl, zs0_of (by decide)⟩
  | 29, e => cases e; exact ⟨_, rfl, _, rfl, zs0_of (by decide)⟩
  | 30, e => cases e; exact ⟨_, rfl, _, rfl, zs0_of (by decide)⟩
  | 31, e => cases e; exact ⟨_, rfl, _, rfl, zs0_of (by decide)⟩
  | 32, e => cases e; exact ⟨_, rfl, _, rfl, c32 (by decide)⟩
  | 33, e => cases e; exact ⟨_, rfl, _, rfl, zs0_of (by decide)⟩
  | 34, e => cases e; exact ⟨_, rfl, _, rfl, zs0_of (by decide)⟩
  | 35, e => cases e; exact ⟨_, rfl, _, rfl, zs0_of (by decide)⟩
  | 36, e => cases e; exact ⟨_, rfl, _, rfl, zs0_of (by decide)⟩
  | 37, e => cases e; exact ⟨_, rfl, _, rfl, zs0_of (by decide)⟩
  | 38, e => cases e; exact ⟨_, rfl, _, rfl, c32 (by decide)⟩
  | 39, e => cases e; exact ⟨_, rfl, _, rfl, c32 (by decide)⟩
  | 40, e => cases e; exact ⟨_, rfl, _, rfl, zs0_of (by decide)⟩
  | 41, e => cases e; exact ⟨_, rfl, _, rfl, zs0_of (by decide)⟩
  | 42, e => cases e; exact ⟨_, rfl, _, rfl, zs0_of (by decide)⟩
  | 43, e => cases e; exact ⟨_, rfl, _, rfl, zs0_of (by decide)⟩
  | 44, e => cases e; exact ⟨_, rfl, _, rfl, zs0_of (by decide)⟩
  | 45, e => cases e; exact ⟨_, rfl, _, rfl, zs0_of (by decide)⟩
  | 46, e => cases e; exact ⟨_, rfl, _, rfl, zs0_of (by decide)⟩
  | 47, e => cases e; exact ⟨_, rfl, _, rfl, zs0_of (by decide)⟩
  | 48, e => cases e; exact ⟨_, rfl, _, rfl, zs0_of (by decide)⟩
  | 49, e => cases e; exact ⟨_, rfl, _, rfl, zs0_of (by decide)⟩
  | 50, e => cases e; exact ⟨_, rfl, _, rfl, zs0_of (by decide)⟩
  | 51, e => cases e; exact ⟨_, rfl, _, rfl, zs0_of (by decide)⟩
  | 52, e => cases e; exact ⟨_, rfl, _, rfl, c32 (by decide)⟩
  | 53, e => cases e; exact ⟨_, rfl, _, rfl, zs0_of (by decide)⟩
  | 54, e => cases e; exact ⟨_, rfl, _, rfl, c32 (by decide)⟩
  | 55, e => cases e; exact ⟨_, rfl, _, rfl, c32 (by decide)⟩
  | 56, e => cases e; exact ⟨_, rfl, _, rfl, zs0_of (by decide)⟩
  | 57, e => cases e; exact ⟨_, rfl, _, rfl, zs0_of (by decide)⟩
  | 58, e => cases e; exact ⟨_, rfl, _, rfl, zs0_of (by decide)⟩
  | 59, e => cases e; exact ⟨_, rfl, _, rfl, zs0_of (by decide)⟩
  | 60, e => cases e; exact ⟨_, rfl, _, rfl, zs0_of (by decide)⟩
  | 61, e => cases e; exact ⟨_, rfl, _, rfl, zs0_of (by decide)⟩
  | 62, e => cases e; exact ⟨_, rfl, _, rfl, zs0_of (by decide)⟩
  | 63, e => cases e; exact ⟨_, rfl, _, rfl, zs0_of (by decide)⟩
  | 64, e => cases e; exact ⟨_, rfl, _, rfl, c32 (by decide)⟩
  | 65, e => cases e; exact ⟨_, rfl, _, rfl, c32 (by decide)⟩
  | 66, e => cases e; exact ⟨_, rfl, _, rfl, c32 (by decide)⟩
  | 67, e => cases e; exact ⟨_, rfl, _, rfl, c32 (by decide)⟩
  | 68, e => cases e; exact ⟨_, rfl, _, rfl, c32 (by decide)⟩
  | 69, e => cases e; exact ⟨_, rfl, _, rfl, zs0_of (by decide)⟩
  | 70, e => cases e; exact ⟨_, rfl, _, rfl, zs0_of (by decide)⟩
  | 71, e => cases e; exact ⟨_, rfl, _, rfl, c32 (by decide)⟩
  | 72, e => cases e; exact ⟨_, rfl, _, rfl, zs0_of (by decide)⟩
  | 73, e => cases e; exact ⟨_, rfl, _, rfl, zs0_of (by decide)⟩
  | 74, e => cases e; exact ⟨_, rfl, _, rfl, zs0_of (by decide)⟩
  | 75, e => cases e; exact ⟨_, rfl, _, rfl, c32 (by decide)⟩
  | 76, e => cases e; exact ⟨_, rfl, _, rfl, zs0_of (by decide)⟩
  | 77, e => cases e; exact ⟨_, rfl, _, rfl, zs0_of (by decide)⟩
  | 78, e => cases e; exact ⟨_, rfl, _, rfl, zs0_of (by decide)⟩
  | 79, e => cases e; exact ⟨_, rfl, _, rfl, c32 (by decide)⟩
  | 80, e => cases e; exact ⟨_, rfl, _, rfl, zs0_of (by decide)⟩
  | 81, e => cases e; exact ⟨_, rfl, _, rfl, c32 (by decide)⟩
  | 82, e => cases e; exact ⟨_, rfl, _, rfl, zs0_of (by decide)⟩
  | 83, e => cases e; exact ⟨_, rfl, _, rfl, c32 (by decide)⟩
  | 84, e => cases e; exact ⟨_, rfl, _, rfl, c32 (by decide)⟩
  | 85, e => cases e; exact ⟨_, rfl, _, rfl, zs0_of (by decide)⟩
  | 86, e => cases e; exact ⟨_, rfl, _, rfl, zs0_of (by decide)⟩
  | 87, e => cases e; exact ⟨_, rfl, _, rfl, c32 (by decide)⟩
  | 88, e => cases e; exact ⟨_, rfl, _, rfl, zs0_of (by decide)⟩
  | 89, e => cases e; exact ⟨_, rfl, _, rfl, zs0_of (by decide)⟩
  | 90, e => cases e; exact ⟨_, rfl, _, rfl, zs0_of (by decide)⟩
  | 91, e => cases e; exact ⟨_, rfl, _, rfl, zs0_of (by decide)⟩
  | 92, e => cases e; exact ⟨_, rfl, _, rfl, zs0_of (by decide)⟩
  | 93, e => cases e; exact ⟨_, rfl, _, rfl, c32 (by decide)⟩
  | 94, e => cases e; exact ⟨_, rfl, _, rfl, c32 (by decide)⟩
  | 95, e => cases e; exact ⟨_, rfl, _, rfl, c32 (by decide)⟩
  | 96, e => cases e; exact ⟨_, rfl, _, rfl, zs0_of (by decide)⟩
  | 97, e => cases e; exact ⟨_, rfl, _, rfl, zs0_of (by decide)⟩
  | 98, e => cases e; exact ⟨_, rfl, _, rfl, zs0_of (by decide)⟩
  | 99, e => cases e; exact ⟨_, rfl, _, rfl, zs0_of (by decide)⟩
  | 100, e => cases e; exact ⟨_, rfl, _, rfl, zs0_of (by decide)⟩
  | i + 101, e => simp at e
theorem zd73 : ∃ t c, cRT[73]? = some t ∧ zH0.1[73]? = some c ∧ dC zs0 t c := ⟨_, _, rfl, zh73, ⟨_, rfl, fun j _ => c32 (by decide)⟩⟩
theorem zd74 : ∃ t c, cRT[74]? = some t ∧ zH0.1[74]? = some c ∧ dC zs0 t c := ⟨_, _, rfl, zh74, ⟨_, rfl, fun j _ => c32 (by decide)⟩⟩
theorem zd75 : ∃ t c, cRT[75]? = some t ∧ zH0.1[75]? = some c ∧ dC zs0 t c := ⟨_, _, rfl, zh75, ⟨_, rfl, fun j _ => c32 (by decide)⟩⟩
theorem zd76 : ∃ t c, cRT[76]? = some t ∧ zH0.1[76]? = some c ∧ dC zs0 t c := ⟨_, _, rfl, zh76, ⟨_, rfl, fun j _ => c32 (by decide)⟩⟩
theorem zd77 : ∃ t c, cRT[77]? = some t ∧ zH0.1[77]? = some c ∧ dC zs0 t c := ⟨_, _, rfl, zh77, ⟨_, rfl, fun j _ => c32 (by decide)⟩⟩
theorem zd78 : ∃ t c, cRT[78]? = some t ∧ zH0.1[78]? = some c ∧ dC zs0 t c := ⟨_, _, rfl, zh78, ⟨_, rfl, fun j _ => c32 (by decide)⟩⟩
theorem zd79 : ∃ t c, cRT[79]? = some t ∧ zH0.1[79]? = some c ∧ dC zs0 t c := ⟨_, _, rfl, zh79, ⟨_, rfl, fun j _ => c32 (by decide)⟩⟩
theorem zd80 : ∃ t c, cRT[80]? = some t ∧ zH0.1[80]? = some c ∧ dC zs0 t c := ⟨_, _, rfl, zh80, ⟨_, rfl, fun j _ => c32 (by decide)⟩⟩
theorem zd81 : ∃ t c, cRT[81]? = some t ∧ zH0.1[81]? = some c ∧ dC zs0 t c := ⟨_, _, rfl, zh81, ⟨_, rfl, fun j _ => c32 (by decide)⟩⟩
theorem zd82 : ∃ t c, cRT[82]? = some t ∧ zH0.1[82]? = some c ∧ dC zs0 t c := ⟨_, _, rfl, zh82, ⟨_, rfl, fun j _ => c32 (by decide)⟩⟩
theorem zd83 : ∃ t c, cRT[83]? = some t ∧ zH0.1[83]? = some c ∧ dC zs0 t c := ⟨_, _, rfl, zh83, ⟨_, rfl, fun j _ => c32 (by decide)⟩⟩
theorem zd84 : ∃ t c, cRT[84]? = some t ∧ zH0.1[84]? = some c ∧ dC zs0 t c := ⟨_, _, rfl, zh84, ⟨_, rfl, fun j _ => c32 (by decide)⟩⟩
theorem zd85 : ∃ t c, cRT[85]? = some t ∧ zH0.1[85]? = some c ∧ dC zs0 t c := ⟨_, _, rfl, zh85, ⟨_, rfl, fun j _ => c32 (by decide)⟩⟩
theorem zd86 : ∃ t c, cRT[86]? = some t ∧ zH0.1[86]? = some c ∧ dC zs0 t c := ⟨_, _, rfl, zh86, ⟨_, rfl, fun j _ => c32 (by decide)⟩⟩
theorem zd87 : ∃ t c, cRT[87]? = some t ∧ zH0.1[87]? = some c ∧ dC zs0 t c := ⟨_, _, rfl, zh87, ⟨_, rfl, fun j _ => c32 (by decide)⟩⟩
theorem zd88 : ∃ t c, cRT[88]? = some t ∧ zH0.1[88]? = some c ∧ dC zs0 t c := ⟨_, _, rfl, zh88, ⟨_, rfl, fun j _ => c32 (by decide)⟩⟩
theorem zd89 : ∃ t c, cRT[89]? = some t ∧ zH0.1[89]? = some c ∧ dC zs0 t c := ⟨_, _, rfl, zh89, ⟨_, rfl, fun j _ => c32 (by decide)⟩⟩
theorem zd90 : ∃ t c, cRT[90]? = some t ∧ zH0.1[90]? = some c ∧ dC zs0 t c := ⟨_, _, rfl, zh90, ⟨_, rfl, fun j _ => c32 (by decide)⟩⟩
theorem zd91 : ∃ t c, cRT[91]? = some t ∧ zH0.1[91]? = some c ∧ dC zs0 t c := ⟨_, _, rfl, zh91, ⟨_, rfl, fun j _ => c32 (by decide)⟩⟩
theorem zd92 : ∃ t c, cRT[92]? = some t ∧ zH0.1[92]? = some c ∧ dC zs0 t c := ⟨_, _, rfl, zh92, ⟨_, rfl, fun j _ => c32 (by decide)⟩⟩
theorem zd93 : ∃ t c, cRT[93]? = some t ∧ zH0.1[93]? = some c ∧ dC zs0 t c := ⟨_, _, rfl, zh93, ⟨_, rfl, fun j _ => c32 (by decide)⟩⟩
theorem zd94 : ∃ t c, cRT[94]? = some t ∧ zH0.1[94]? = some c ∧ dC zs0 t c := ⟨_, _, rfl, zh94, ⟨_, rfl, fun j _ => c32 (by decide)⟩⟩
theorem zd95 : ∃ t c, cRT[95]? = some t ∧ zH0.1[95]? = some c ∧ dC zs0 t c := ⟨_, _, rfl, zh95, ⟨_, rfl, fun j _ => c32 (by decide)⟩⟩
theorem zd96 : ∃ t c, cRT[96]? = some t ∧ zH0.1[96]? = some c ∧ dC zs0 t c := ⟨_, _, rfl, zh96, ⟨_, rfl, fun j _ => c32 (by decide)⟩⟩
theorem zd97 : ∃ t c, cRT[97]? = some t ∧ zH0.1[97]? = some c ∧ dC zs0 t c := ⟨_, _, rfl, zh97, ⟨_, rfl, fun j _ => c32 (by decide)⟩⟩
theorem zd98 : ∃ t c, cRT[98]? = some t ∧ zH0.1[98]? = some c ∧ dC zs0 t c := ⟨_, _, rfl, zh98, ⟨_, rfl, fun j _ => c32 (by decide)⟩⟩
theorem zd99 : ∃ t c, cRT[99]? = some t ∧ zH0.1[99]? = some c ∧ dC zs0 t c := ⟨_, _, rfl, zh99, ⟨_, rfl, fun j _ => c32 (by decide)⟩⟩
theorem zd100 : ∃ t c, cRT[100]? = some t ∧ zH0.1[100]? = some c ∧ dC zs0 t c := ⟨_, _, rfl, zh100, ⟨_, rfl, fun j _ => c32 (by decide)⟩⟩
theorem zd101 : ∃ t c, cRT[101]? = some t ∧ zH0.1[101]? = some c ∧ dC zs0 t c := ⟨_, _, rfl, zh101, ⟨_, rfl, fun j _ => c32 (by decide)⟩⟩
theorem zd102 : ∃ t c, cRT[102]? = some t ∧ zH0.1[102]? = some c ∧ dC zs0 t c := ⟨_, _, rfl, zh102, ⟨_, rfl, fun j _ => c32 (by decide)⟩⟩
theorem zd103 : ∃ t c, cRT[103]? = some t ∧ zH0.1[103]? = some c ∧ dC zs0 t c := ⟨_, _, rfl, zh103, ⟨_, rfl, fun j _ => c32 (by decide)⟩⟩
theorem zd104 : ∃ t c, cRT[104]? = some t ∧ zH0.1[104]? = some c ∧ dC zs0 t c := ⟨_, _, rfl, zh104, ⟨_, rfl, fun j _ => c32 (by decide)⟩⟩
theorem zd105 : ∃ t c, cRT[105]? = some t ∧ zH0.1[105]? = some c ∧ dC zs0 t c := ⟨_, _, rfl, zh105, ⟨_, rfl, fun j _ => c32 (by decide)⟩⟩
theorem zd106 : ∃ t c, cRT[106]? = some t ∧ zH0.1[106]? = some c ∧ dC zs0 t c := ⟨_, _, rfl, zh106, ⟨_, rfl, fun j _ => c32 (by decide)⟩⟩
theorem zd107 : ∃ t c, cRT[107]? = some t ∧ zH0.1[107]? = some c ∧ dC zs0 t c := ⟨_, _, rfl, zh107, ⟨_, rfl, fun j _ => c32 (by decide)⟩⟩
theorem zd108 : ∃ t c, cRT[108]? = some t ∧ zH0.1[108]? = some c ∧ dC zs0 t c := ⟨_, _, rfl, zh108, ⟨_, rfl, fun j _ => c32 (by decide)⟩⟩
theorem zd109 : ∃ t c, cRT[109]? = some t ∧ zH0.1[109]? = some c ∧ dC zs0 t c := ⟨_, _, rfl, zh109, ⟨_, rfl, fun j _ => c32 (by decide)⟩⟩
theorem zd110 : ∃ t c, cRT[110]? = some t ∧ zH0.1[110]? = some c ∧ dC zs0 t c := ⟨_, _, rfl, zh110, ⟨_, rfl, fun j _ => c32 (by decide)⟩⟩
theorem zd111 : ∃ t c, cRT[111]? = some t ∧ zH0.1[111]? = some c ∧ dC zs0 t c := ⟨_, _, rfl, zh111, ⟨_, rfl, fun j _ => c32 (by decide)⟩⟩
theorem zd112 : ∃ t c, cRT[112]? = some t ∧ zH0.1[112]? = some c ∧ dC zs0 t c := ⟨_, _, rfl, zh112, ⟨_, rfl, fun j _ => c32 (by decide)⟩⟩
theorem zd113 : ∃ t c, cRT[113]? = some t ∧ zH0.1[113]? = some c ∧ dC zs0 t c := ⟨_, _, rfl, zh113, ⟨_, rfl, fun j _ => c32 (by decide)⟩⟩
theorem zd114 : ∃ t c, cRT[114]? = some t ∧ zH0.1[114]? = some c ∧ dC zs0 t c := ⟨_, _, rfl, zh114, ⟨_, rfl, fun j _ => c32 (by decide)⟩⟩
theorem zd115 : ∃ t c, cRT[115]? = some t ∧ zH0.1[115]? = some c ∧ dC zs0 t c := ⟨_, _, rfl, zh115, ⟨_, rfl, fun j _ => c32 (by decide)⟩⟩
theorem zd116 : ∃ t c, cRT[116]? = some t ∧ zH0.1[116]? = some c ∧ dC zs0 t c := ⟨_, _, rfl, zh116, ⟨_, rfl, fun j _ => c32 (by decide)⟩⟩
theorem zd117 : ∃ t c, cRT[117]? = some t ∧ zH0.1[117]? = some c ∧ dC zs0 t c := ⟨_, _, rfl, zh117, ⟨_, rfl, fun j _ => c32 (by decide)⟩⟩
theorem zd118 : ∃ t c, cRT[118]? = some t ∧ zH0.1[118]? = some c ∧ dC zs0 t c := ⟨_, _, rfl, zh118, ⟨_, rfl, fun j _ => c32 (by decide)⟩⟩
theorem zd119 : ∃ t c, cRT[119]? = some t ∧ zH0.1[119]? = some c ∧ dC zs0 t c := ⟨_, _, rfl, zh119, ⟨_, rfl, fun j _ => c32 (by decide)⟩⟩
theorem zd120 : ∃ t c, cRT[120]? = some t ∧ zH0.1[120]? = some c ∧ dC zs0 t c := ⟨_, _, rfl, zh120, ⟨_, rfl, fun j _ => c32 (by decide)⟩⟩
theorem zd121 : ∃ t c, cRT[121]? = some t ∧ zH0.1[121]? = some c ∧ dC zs0 t c := ⟨_, _, rfl, zh121, ⟨_, rfl, fun j _ => c32 (by decide)⟩⟩
theorem zd122 : ∃ t c, cRT[122]? = some t ∧ zH0.1[122]? = some c ∧ dC zs0 t c := ⟨_, _, rfl, zh122, ⟨_, rfl, fun j _ => c32 (by decide)⟩⟩
theorem zd123 : ∃ t c, cRT[123]? = some t ∧ zH0.1[123]? = some c ∧ dC zs0 t c := ⟨_, _, rfl, zh123, ⟨_, rfl, fun j _ => c32 (by decide)⟩⟩
theorem zd124 : ∃ t c, cRT[124]? = some t ∧ zH0.1[124]? = some c ∧ dC zs0 t c := ⟨_, _, rfl, zh124, ⟨_, rfl, fun j _ => c32 (by decide)⟩⟩
theorem zd125 : ∃ t c, cRT[125]? = some t ∧ zH0.1[125]? = some c ∧ dC zs0 t c := ⟨_, _, rfl, zh125, ⟨_, rfl, fun j _ => c32 (by decide)⟩⟩
theorem zd126 : ∃ t c, cRT[126]? = some t ∧ zH0.1[126]? = some c ∧ dC zs0 t c := ⟨_, _, rfl, zh126, ⟨_, rfl, fun j _ => c32 (by decide)⟩⟩
theorem zd127 : ∃ t c, cRT[127]? = some t ∧ zH0.1[127]? = some c ∧ dC zs0 t c := ⟨_, _, rfl, zh127, ⟨_, rfl, fun j _ => c32 (by decide)⟩⟩
theorem zd128 : ∃ t c, cRT[128]? = some t ∧ zH0.1[128]? = some c ∧ dC zs0 t c := ⟨_, _, rfl, zh128, ⟨_, rfl, fun j _ => c32 (by decide)⟩⟩
theorem zd129 : ∃ t c, cRT[129]? = some t ∧ zH0.1[129]? = some c ∧ dC zs0 t c := ⟨_, _, rfl, zh129, ⟨_, rfl, fun j _ => c32 (by decide)⟩⟩
theorem zd130 : ∃ t c, cRT[130]? = some t ∧ zH0.1[130]? = some c ∧ dC zs0 t c := ⟨_, _, rfl, zh130, ⟨_, rfl, fun j _ => c64 (by decide)⟩⟩
theorem zd131 : ∃ t c, cRT[131]? = some t ∧ zH0.1[131]? = some c ∧ dC zs0 t c := ⟨_, _, rfl, zh131, ⟨_, rfl, fun j _ => c64 (by decide)⟩⟩
theorem zd132 : ∃ t c, cRT[132]? = some t ∧ zH0.1[132]? = some c ∧ dC zs0 t c := ⟨_, _, rfl, zh132, ⟨_, rfl, fun j _ => c32 (by decide)⟩⟩
theorem zd133 : ∃ t c, cRT[133]? = some t ∧ zH0.1[133]? = some c ∧ dC zs0 t c := ⟨_, _, rfl, zh133, ⟨_, rfl, fun j _ => c32 (by decide)⟩⟩
theorem zd134 : ∃ t c, cRT[134]? = some t ∧ zH0.1[134]? = some c ∧ dC zs0 t c := ⟨_, _, rfl, zh134, ⟨_, rfl, fun j _ => c32 (by decide)⟩⟩
theorem zd135 : ∃ t c, cRT[135]? = some t ∧ zH0.1[135]? = some c ∧ dC zs0 t c := ⟨_, _, rfl, zh135, ⟨_, rfl, fun j _ => c32 (by decide)⟩⟩
theorem zd136 : ∃ t c, cRT[136]? = some t ∧ zH0.1[136]? = some c ∧ dC zs0 t c := ⟨_, _, rfl, zh136, ⟨_, rfl, fun j _ => c32 (by decide)⟩⟩
theorem zd137 : ∃ t c, cRT[137]? = some t ∧ zH0.1[137]? = some c ∧ dC zs0 t c := ⟨_, _, rfl, zh137, ⟨_, rfl, fun j _ => c32 (by decide)⟩⟩
theorem zd138 : ∃ t c, cRT[138]? = some t ∧ zH0.1[138]? = some c ∧ dC zs0 t c := ⟨_, _, rfl, zh138, ⟨_, rfl, fun j _ => c32 (by decide)⟩⟩
theorem zd139 : ∃ t c, cRT[139]? = some t ∧ zH0.1[139]? = some c ∧ dC zs0 t c := ⟨_, _, rfl, zh139, ⟨_, rfl, fun j _ => c32 (by decide)⟩⟩
theorem zd140 : ∃ t c, cRT[140]? = some t ∧ zH0.1[140]? = some c ∧ dC zs0 t c := ⟨_, _, rfl, zh140, ⟨_, rfl, fun j _ => c32 (by decide)⟩⟩
theorem zd141 : ∃ t c, cRT[141]? = some t ∧ zH0.1[141]? = some c ∧ dC zs0 t c := ⟨_, _, rfl, zh141, ⟨_, rfl, fun j _ => c32 (by decide)⟩⟩
theorem zd142 : ∃ t c, cRT[142]? = some t ∧ zH0.1[142]? = some c ∧ dC zs0 t c := ⟨_, _, rfl, zh142, ⟨_, rfl, fun j _ => c32 (by decide)⟩⟩
theorem zd143 : ∃ t c, cRT[143]? = some t ∧ zH0.1[143]? = some c ∧ dC zs0 t c := ⟨_, _, rfl, zh143, ⟨_, rfl, fun j _ => c32 (by decide)⟩⟩
theorem zd144 : ∃ t c, cRT[144]? = some t ∧ zH0.1[144]? = some c ∧ dC zs0 t c := ⟨_, _, rfl, zh144, ⟨_, rfl, fun j _ => c64 (by decide)⟩⟩
theorem zd145 : ∃ t c, cRT[145]? = some t ∧ zH0.1[145]? = some c ∧ dC zs0 t c := ⟨_, _, rfl, zh145, ⟨_, rfl, fun j _ => c64 (by decide)⟩⟩
theorem zd_all : ∀ q : Nat, q < 146 → ∃ t c, cRT[q]? = some t ∧ zH0.1[q]? = some c ∧ dC zs0 t c := by
  intro q hq
  match q, hq with
  | 0, _ => exact zd0
  | 1, _ => exact zd1
  | 2, _ => exact zd2
  | 3, _ => exact zd3
  | 4, _ => exact zd4
  | 5, _ => exact zd5
  | 6, _ => exact zd6
  | 7, _ => exact zd7
  | 8, _ => exact zd8
  | 9, _ => exact zd9
  | 10, _ => exact zd10
  | 11, _ => exact zd11
  | 12, _ => exact zd12
  | 13, _ => exact zd13
  | 14, _ => exact zd14
  | 15, _ => exact zd15
  | 16, _ => exact zd16
  | 17, _ => exact zd17
  | 18, _ => exact zd18
  | 19, _ => exact zd19
  | 20, _ => exact zd20
  | 21, _ => exact zd21
  | 22, _ => exact zd22
  | 23, _ => exact zd23
  | 24, _ => exact zd24
  | 25, _ => exact zd25
  | 26, _ => exact zd26
  | 27, _ => exact zd27
  | 28, _ => exact zd28
  | 29, _ => exact zd29
  | 30, _ => exact zd30
  | 31, _ => exact zd31
  | 32, _ => exact zd32
  | 33, _ => exact zd33
  | 34, _ => exact zd34
  | 35, _ => exact zd35
  | 36, _ => exact zd36
  | 37, _ => exact zd37
  | 38, _ => exact zd38
  | 39, _ => exact zd39
  | 40, _ => exact zd40
  | 41, _ => exact zd41
  | 42, _ => exact zd42
  | 43, _ => exact zd43
  | 44, _ => exact zd44
  | 45, _ => exact zd45
  | 46, _ => exact zd46
  | 47, _ => exact zd47
  | 48, _ => exact zd48
  | 49, _ => exact zd49
  | 50, _ => exact zd50
  | 51, _ => exact zd51
  | 52, _ => exact zd52
  | 53, _ => exact zd53
  | 54, _ => exact zd54
  | 55, _ => exact zd55
  | 56, _ => exact zd56
  | 57, _ => exact zd57
  | 58, _ => exact zd58
  | 59, _ => exact zd59
  | 60, _ => exact zd60
  | 61, _ => exact zd61
  | 62, _ => exact zd62
  | 63, _ => exact zd63
  | 64, _ => exact zd64
  | 65, _ => exact zd65
  | 66, _ => exact zd66
  | 67, _ => exact zd67
  | 68, _ => exact zd68
  | 69, _ => exact zd69
  | 70, _ => exact zd70
  | 71, _ => exact zd71
  | 72, _ => exact zd72
  | 73, _ => exact zd73
  | 74, _ => exact zd74
  | 75, _ => exact zd75
  | 76, _ => exact zd76
  | 77, _ => exact zd77
  | 78, _ => exact zd78
  | 79, _ => exact zd79
  | 80, _ => exact zd80
  | 81, _ => exact zd81
  | 82, _ => exact zd82
  | 83, _ => exact zd83
  | 84, _ => exact zd84
  | 85, _ => exact zd85
  | 86, _ => exact zd86
  | 87, _ => exact zd87
  | 88, _ => exact zd88
  | 89, _ => exact zd89
  | 90, _ => exact zd90
  | 91, _ => exact zd91
  | 92, _ => exact zd92
  | 93, _ => exact zd93
  | 94, _ => exact zd94
  | 95, _ => exact zd95
  | 96, _ => exact zd96
  | 97, _ => exact zd97
  | 98, _ => exact zd98
  | 99, _ => exact zd99
  | 100, _ => exact zd100
  | 101, _ => exact zd101
  | 102, _ => exact zd102
  | 103, _ => exact zd103
  | 104, _ => exact zd104
  | 105, _ => exact zd105
  | 106, _ => exact zd106
  | 107, _ => exact zd107
  | 108, _ => exact zd108
  | 109, _ => exact zd109
  | 110, _ => exact zd110
  | 111, _ => exact zd111
  | 112, _ => exact zd112
  | 113, _ => exact zd113
  | 114, _ => exact zd114
  | 115, _ => exact zd115
  | 116, _ => exact zd116
  | 117, _ => exact zd117
  | 118, _ => exact zd118
  | 119, _ => exact zd119
  | 120, _ => exact zd120
  | 121, _ => exact zd121
  | 122, _ => exact zd122
  | 123, _ => exact zd123
  | 124, _ => exact zd124
  | 125, _ => exact zd125
  | 126, _ => exact zd126
  | 127, _ => exact zd127
  | 128, _ => exact zd128
  | 129, _ => exact zd129
  | 130, _ => exact zd130
  | 131, _ => exact zd131
  | 132, _ => exact zd132
  | 133, _ => exact zd133
  | 134, _ => exact zd134
  | 135, _ => exact zd135
  | 136, _ => exact zd136
  | 137, _ => exact zd137
  | 138, _ => exact zd138
  | 139, _ => exact zd139
  | 140, _ => exact zd140
  | 141, _ => exact zd141
  | 142, _ => exact zd142
  | 143, _ => exact zd143
  | 144, _ => exact zd144
  | 145, _ => exact zd145
  | q + 146, hq => exact absurd hq (by omega)
theorem zDI0 : dI zs0 zH0 := by
  refine ⟨⟨by rw [zH0_len]; exact List.length_range, fun q r e => ?_, fun q r e _ => (zs0_at e).1, fun r hr => zs0_of hr⟩, ⟨_, _, zh69, zh70, fun j _ h1 _ => absurd h1 (by decide)⟩, ⟨_, _, _, _, _, _, _, zh122, zh123, zh120, zh121, zh119, zh72, rfl, fun t ht => absurd ht ?_⟩⟩
  · obtain ⟨rfl, hq⟩ := zs0_at e
    exact zd_all q hq
  · rw [show ((0 : Int32)).toInt = 0 by decide]
    omega
theorem zPh0 : dPh zH0 = 97319 := by
  have e1 : dNul zH0 42 10 = 10 := by unfold dNul; rw [zh42]; rfl
  have e2 : dNul zH0 65 150 = 150 := by unfold dNul; rw [zh65]; decide +kernel
  unfold dPh
  rw [e1, e2, zH0_len]
  rfl
end
section
-- ===== the law: tools, days =====
theorem f137_0 : aF 0 zM137.2.2.2.2.2.2.2 = some (0, (.iload_n 1), 1, 0, 0) := by decide +kernel
theorem f137_1 : aF 1 zM137.2.2.2.2.2.2.2 = some (1, (.iload_n 0), 1, 0, 0) := by decide +kernel
theorem f137_2 : aF 2 zM137.2.2.2.2.2.2.2 = some (2, (.if_icmp .gt 12), 3, 14, 0) := by decide +kernel
theorem f137_5 : aF 5 zM137.2.2.2.2.2.2.2 = some (5, (.iload_n 0), 1, 0, 0) := by decide +kernel
theorem f137_6 : aF 6 zM137.2.2.2.2.2.2.2 = some (6, (.iload_n 2), 1, 0, 0) := by decide +kernel
theorem f137_7 : aF 7 zM137.2.2.2.2.2.2.2 = some (7, (.if_icmp .gt 7), 3, 14, 0) := by decide +kernel
theorem f137_10 : aF 10 zM137.2.2.2.2.2.2.2 = some (10, (.iconst 1), 1, 0, 0) := by decide +kernel
theorem f137_11 : aF 11 zM137.2.2.2.2.2.2.2 = some (11, (.goto 4), 3, 15, 0) := by decide +kernel
theorem f137_14 : aF 14 zM137.2.2.2.2.2.2.2 = some (14, (.iconst 0), 1, 0, 0) := by decide +kernel
theorem f137_15 : aF 15 zM137.2.2.2.2.2.2.2 = some (15, .ireturn, 1, 0, 0) := by decide +kernel
theorem f144_0 : aF 0 zM144.2.2.2.2.2.2.2 = some (0, (.iload_n 1), 1, 0, 0) := by decide +kernel
theorem f144_1 : aF 1 zM144.2.2.2.2.2.2.2 = some (1, (.iconst 1), 1, 0, 0) := by decide +kernel
theorem f144_2 : aF 2 zM144.2.2.2.2.2.2.2 = some (2, (.sipush 365), 3, 0, 0) := by decide +kernel
theorem f144_5 : aF 5 zM144.2.2.2.2.2.2.2 = some (5, (.invokestatic 85), 3, 137, 0) := by decide +kernel
theorem f144_8 : aF 8 zM144.2.2.2.2.2.2.2 = some (8, (.ifCond .eq 18), 3, 26, 0) := by decide +kernel
theorem f144_11 : aF 11 zM144.2.2.2.2.2.2.2 = some (11, (.aload_n 0), 1, 0, 0) := by decide +kernel
theorem f144_12 : aF 12 zM144.2.2.2.2.2.2.2 = some (12, (.getfield 12), 3, 11, 0) := by decide +kernel
theorem f144_15 : aF 15 zM144.2.2.2.2.2.2.2 = some (15, (.getfield 93), 3, 6, 0) := by decide +kernel
theorem f144_18 : aF 18 zM144.2.2.2.2.2.2.2 = some (18, (.iload_n 1), 1, 0, 0) := by decide +kernel
theorem f144_19 : aF 19 zM144.2.2.2.2.2.2.2 = some (19, .iadd, 1, 0, 0) := by decide +kernel
theorem f144_20 : aF 20 zM144.2.2.2.2.2.2.2 = some (20, (.sipush 3649), 3, 0, 0) := by decide +kernel
theorem f144_23 : aF 23 zM144.2.2.2.2.2.2.2 = some (23, (.if_icmp .le 5), 3, 28, 0) := by decide +kernel
theorem f144_26 : aF 26 zM144.2.2.2.2.2.2.2 = some (26, (.iconst (-1)), 1, 0, 0) := by decide +kernel
theorem f144_27 : aF 27 zM144.2.2.2.2.2.2.2 = some (27, .ireturn, 1, 0, 0) := by decide +kernel
theorem f144_28 : aF 28 zM144.2.2.2.2.2.2.2 = some (28, (.aload_n 0), 1, 0, 0) := by decide +kernel
theorem f144_29 : aF 29 zM144.2.2.2.2.2.2.2 = some (29, (.getfield 12), 3, 11, 0) := by decide +kernel
theorem f144_32 : aF 32 zM144.2.2.2.2.2.2.2 = some (32, .dup, 1, 0, 0) := by decide +kernel
theorem f144_33 : aF 33 zM144.2.2.2.2.2.2.2 = some (33, (.getfield 93), 3, 6, 0) := by decide +kernel
theorem f144_36 : aF 36 zM144.2.2.2.2.2.2.2 = some (36, (.iload_n 1), 1, 0, 0) := by decide +kernel
theorem f144_37 : aF 37 zM144.2.2.2.2.2.2.2 = some (37, .iadd, 1, 0, 0) := by decide +kernel
theorem f144_38 : aF 38 zM144.2.2.2.2.2.2.2 = some (38, (.putfield 93), 3, 6, 0) := by decide +kernel
theorem f144_41 : aF 41 zM144.2.2.2.2.2.2.2 = some (41, (.aload_n 0), 1, 0, 0) := by decide +kernel
theorem f144_42 : aF 42 zM144.2.2.2.2.2.2.2 = some (42, (.getfield 12), 3, 11, 0) := by decide +kernel
theorem f144_45 : aF 45 zM144.2.2.2.2.2.2.2 = some (45, (.getfield 93), 3, 6, 0) := by decide +kernel
theorem f144_48 : aF 48 zM144.2.2.2.2.2.2.2 = some (48, .ireturn, 1, 0, 0) := by decide +kernel
theorem f199_0 : aF 0 zM199.2.2.2.2.2.2.2 = some (0, (.iload_n 1), 1, 0, 0) := by decide +kernel
theorem f199_1 : aF 1 zM199.2.2.2.2.2.2.2 = some (1, (.iconst 1), 1, 0, 0) := by decide +kernel
theorem f199_2 : aF 2 zM199.2.2.2.2.2.2.2 = some (2, (.sipush 365), 3, 0, 0) := by decide +kernel
theorem f199_5 : aF 5 zM199.2.2.2.2.2.2.2 = some (5, (.invokestatic 258), 3, 196, 0) := by decide +kernel
theorem f199_8 : aF 8 zM199.2.2.2.2.2.2.2 = some (8, (.ifCond .eq 15), 3, 23, 0) := by decide +kernel
theorem f199_11 : aF 11 zM199.2.2.2.2.2.2.2 = some (11, (.aload_n 0), 1, 0, 0) := by decide +kernel
theorem f199_12 : aF 12 zM199.2.2.2.2.2.2.2 = some (12, (.getfield 262), 3, 12, 1) := by decide +kernel
theorem f199_15 : aF 15 zM199.2.2.2.2.2.2.2 = some (15, (.iload_n 1), 1, 0, 0) := by decide +kernel
theorem f199_16 : aF 16 zM199.2.2.2.2.2.2.2 = some (16, .iadd, 1, 0, 0) := by decide +kernel
theorem f199_17 : aF 17 zM199.2.2.2.2.2.2.2 = some (17, (.sipush 3649), 3, 0, 0) := by decide +kernel
theorem f199_20 : aF 20 zM199.2.2.2.2.2.2.2 = some (20, (.if_icmp .le 5), 3, 25, 0) := by decide +kernel
theorem f199_23 : aF 23 zM199.2.2.2.2.2.2.2 = some (23, (.iconst (-1)), 1, 0, 0) := by decide +kernel
theorem f199_24 : aF 24 zM199.2.2.2.2.2.2.2 = some (24, .ireturn, 1, 0, 0) := by decide +kernel
theorem f199_25 : aF 25 zM199.2.2.2.2.2.2.2 = some (25, (.aload_n 0), 1, 0, 0) := by decide +kernel
theorem f199_26 : aF 26 zM199.2.2.2.2.2.2.2 = some (26, .dup, 1, 0, 0) := by decide +kernel
theorem f199_27 : aF 27 zM199.2.2.2.2.2.2.2 = some (27, (.getfield 262), 3, 12, 1) := by decide +kernel
theorem f199_30 : aF 30 zM199.2.2.2.2.2.2.2 = some (30, (.iload_n 1), 1, 0, 0) := by decide +kernel
theorem f199_31 : aF 31 zM199.2.2.2.2.2.2.2 = some (31, .iadd, 1, 0, 0) := by decide +kernel
theorem f199_32 : aF 32 zM199.2.2.2.2.2.2.2 = some (32, (.putfield 262), 3, 12, 1) := by decide +kernel
theorem f199_35 : aF 35 zM199.2.2.2.2.2.2.2 = some (35, (.aload_n 0), 1, 0, 0) := by decide +kernel
theorem f199_36 : aF 36 zM199.2.2.2.2.2.2.2 = some (36, (.getfield 262), 3, 12, 1) := by decide +kernel
theorem f199_39 : aF 39 zM199.2.2.2.2.2.2.2 = some (39, .ireturn, 1, 0, 0) := by decide +kernel
def JP (h : aH) : Prop := ∃ (fs f2 : List Value) (t n p : Int32), h.1[1]? = some (.inr (6, fs)) ∧ fs[0]? = some (.int t) ∧ fs[1]? = some (.int n) ∧ fs[4]? = some (.int p) ∧ p.toInt ≤ n.toInt ∧ h.1[72]? = some (.inr (12, f2)) ∧ f2[1]? = some (.int t)
theorem JP_dG {σ σ' : List Nat} {h h' : aH} {W : List (Nat × Nat)} (J : JP h) (I : dI σ h) (G : dG W σ h σ' h') (k : (!(cWn W 1 0) && !(cWn W 1 1) && !(cWn W 1 4) && !(cWn W 72 1)) = true) : JP h' := by
  simp only [Bool.and_eq_true, Bool.not_eq_true'] at k
  obtain ⟨⟨⟨k1, k2⟩, k3⟩, k4⟩ := k
  obtain ⟨fs, f2, t, n, p, c1, a1, a2, a3, a4, c2, a5⟩ := J
  obtain ⟨gs, d1, e1⟩ := dG_o I.1 G c1 (by decide)
  obtain ⟨g2, d2, e2⟩ := dG_o I.1 G c2 (by decide)
  exact ⟨gs, g2, t, n, p, d1, (e1 0 k1).trans a1, (e1 1 k2).trans a2, (e1 4 k3).trans a3, a4, d2, (e2 1 k4).trans a5⟩
theorem JP_of {σ σ' : List Nat} {h h' : aH} {W : List (Nat × Nat)} (J : JP h) (I : dI σ h) (G : dG W σ h σ' h') (k : (!(cWn W 1 0) && !(cWn W 72 1)) = true) {ρ : List Int} {rh : List Nat} {K : cK} (hK : dK σ' h' ρ rh K) {a b : Nat} {oa ob c : Int} (f1 : (1, 1, 1, a, oa) ∈ K.2.2.2.2.1) (f4 : (1, 4, 1, b, ob) ∈ K.2.2.2.2.1) (hd : (b, a, c) ∈ K.2.1) (hc : c + ob ≤ oa) : JP h' := by
  simp only [Bool.and_eq_true, Bool.not_eq_true'] at k
  obtain ⟨k1, k4⟩ := k
  obtain ⟨fs, f2, t, n, p, c1, a1, a2, a3, a4, c2, a5⟩ := J
  obtain ⟨gs, d1, e1⟩ := dG_o I.1 G c1 (by decide)
  obtain ⟨g2, d2, e2⟩ := dG_o I.1 G c2 (by decide)
  obtain ⟨q, ci, us, v, x1, x2, x3, x4⟩ := hK.2.2.2.2.1 _ f1
  obtain ⟨q', ci', us', v', y1, y2, y3, y4⟩ := hK.2.2.2.2.1 _ f4
  dsimp only at x1 x3 x4 y1 y3 y4
  obtain ⟨n', z, rfl, x5, x6⟩ := x4
  obtain ⟨p', z', rfl, y5, y6⟩ := y4
  dsimp only at x5 x6 y5 y6
  have hq : ∀ {q : Nat}, dR rh 1 q → q = 1 := by
    rintro q (⟨-, e⟩ | ⟨e, -⟩)
    · exact e
    · omega
  cases hq x1
  cases hq y1
  cases d1.symm.trans x2
  cases d1.symm.trans y2
  obtain ⟨ya, yb, w1, w2, w3⟩ := hK.2.1 _ hd
  dsimp only at w1 w2 w3
  cases y5.symm.trans w1
  cases x5.symm.trans w2
  exact ⟨gs, g2, t, n', p', d1, (e1 0 k1).trans a1, x3, y3, by omega, d2, (e2 1 k4).trans a5⟩
theorem dK_np {σ : List Nat} {h : aH} {ρ : List Int} {V : cV} {a b : Nat} {fs : List Value} {n p : Int32} (k : kV ρ V) (c1 : h.1[1]? = some (.inr (6, fs))) (f1 : fs[1]? = some (.int n)) (f4 : fs[4]? = some (.int p)) (ea : ρ[a]? = some n.toInt) (eb : ρ[b]? = some p.toInt) (hp : p.toInt ≤ n.toInt) : dK σ h ρ [] (V, [(b, a, 0)], [], [], [(1, 1, 1, a, 0), (1, 4, 1, b, 0)], [], []) := by
  refine ⟨k, fun t ht => ?_, fun t ht => (by cases ht), ⟨rfl, fun i r e => (by simp at e)⟩, fun t ht => ?_, fun t ht => (by cases ht), fun t ht => (by cases ht)⟩
  · cases List.mem_singleton.mp ht
    exact ⟨_, _, eb, ea, by show _ ≤ (0 : Int); omega⟩
  · simp only [List.mem_cons, List.not_mem_nil, or_false] at ht
    rcases ht with rfl | rfl
    · exact ⟨1, 6, fs, _, Or.inl ⟨(by show 1 < 146; decide), rfl⟩, c1, f1, n, _, rfl, ea, by show _ = _ + (0 : Int); omega⟩
    · exact ⟨1, 6, fs, _, Or.inl ⟨(by show 1 < 146; decide), rfl⟩, c1, f4, p, _, rfl, eb, by show _ = _ + (0 : Int); omega⟩
section WL
variable {X : aX} {D : Nat} {M : aM} {Q : Option Value → aH → Prop} {pc len a b : Nat} {l : aL} {r : List Value} {h : aH}
theorem w_xld {x k : Nat} {j : Int32} {f : Nat → Int32} (hf : aF pc M.2.2.2.2.2.2.2 = some (pc, .iaload, len, a, b)) (hX : X x = some (k, f)) (h1 : 0 ≤ j.toInt) (h2 : j.toInt < (k : Int)) (kk : ∀ v : Int32, v = f j.toInt.toNat → Wp X D M Q (pc + 1) l (.int v :: r) h) : Wp X D M Q pc l (.int j :: .retAddr x :: r) h := wp1 (fun n d => r_xld hf hX (ix_ok h1 h2) rfl) (kk _ rfl)
end WL
theorem within_wp {X : aX} {D : Nat} {h : aH} {x a b : Int32} : Wp X D zM137 (fun v h' => h = h' ∧ ∃ r : Int32, v = some (.int r) ∧ (r.toInt = 0 ∨ r.toInt = 1) ∧ (r.toInt = 1 ↔ a.toInt ≤ x.toInt ∧ x.toInt ≤ b.toInt)) 0 [some (.int x), some (.int a), some (.int b)] [] h := by
  have k14 : ¬ (a.toInt ≤ x.toInt ∧ x.toInt ≤ b.toInt) → Wp X D zM137 (fun v h' => h = h' ∧ ∃ r : Int32, v = some (.int r) ∧ (r.toInt = 0 ∨ r.toInt = 1) ∧ (r.toInt = 1 ↔ a.toInt ≤ x.toInt ∧ x.toInt ≤ b.toInt)) 14 [some (.int x), some (.int a), some (.int b)] [] h := fun q =>
    w_iconst f137_14 (fun v hv => wp_end (fun n d => r_zreturn f137_15 rfl (Or.inl (b_i.mpr hv))) ⟨rfl, v, rfl, Or.inl hv, fun e => by omega, fun e => absurd e q⟩)
  refine wp1 (fun n d => r_iloadn f137_0 rfl) ?_
  refine wp1 (fun n d => r_iloadn f137_1 rfl) ?_
  refine w_icmp_gt f137_2 (fun _ => k14 (by omega)) (fun e2 => ?_)
  refine wp1 (fun n d => r_iloadn f137_5 rfl) ?_
  refine wp1 (fun n d => r_iloadn f137_6 rfl) ?_
  refine w_icmp_gt f137_7 (fun _ => k14 (by omega)) (fun e7 => ?_)
  refine w_iconst f137_10 (fun v hv => ?_)
  refine wp1 (fun n d => r_goto f137_11) ?_
  exact wp_end (fun n d => r_zreturn f137_15 rfl (Or.inr (b_i.mpr hv))) ⟨rfl, v, rfl, Or.inr hv, fun _ => ⟨by omega, by omega⟩, fun _ => hv⟩
theorem inx_wp {X : aX} {D : Nat} {h : aH} {x a b : Int32} : Wp X D zM196 (fun v h' => h = h' ∧ ∃ r : Int32, v = some (.int r) ∧ (r.toInt = 0 ∨ r.toInt = 1) ∧ (r.toInt = 1 ↔ a.toInt ≤ x.toInt ∧ x.toInt ≤ b.toInt)) 0 [some (.int x), some (.int a), some (.int b)] [] h := by
  have k14 : ¬ (a.toInt ≤ x.toInt ∧ x.toInt ≤ b.toInt) → Wp X D zM196 (fun v h' => h = h' ∧ ∃ r : Int32, v = some (.int r) ∧ (r.toInt = 0 ∨ r.toInt = 1) ∧ (r.toInt = 1 ↔ a.toInt ≤ x.toInt ∧ x.toInt ≤ b.toInt)) 14 [some (.int x), some (.int a), some (.int b)] [] h := fun q =>
    w_iconst f196_14 (fun v hv => wp_end (fun n d => r_zreturn f196_15 rfl (Or.inl (b_i.mpr hv))) ⟨rfl, v, rfl, Or.inl hv, fun e => by omega, fun e => absurd e q⟩)
  refine wp1 (fun n d => r_iloadn f196_0 rfl) ?_
  refine wp1 (fun n d => r_iloadn f196_1 rfl) ?_
  refine w_icmp_lt f196_2 (fun _ => k14 (by omega)) (fun e2 => ?_)
  refine wp1 (fun n d => r_iloadn f196_5 rfl) ?_
  refine wp1 (fun n d => r_iloadn f196_6 rfl) ?_
  refine w_icmp_gt f196_7 (fun _ => k14 (by omega)) (fun e7 => ?_)
  refine w_iconst f196_10 (fun v hv => ?_)
  refine wp1 (fun n d => r_goto f196_11) ?_
  exact wp_end (fun n d => r_zreturn f196_15 rfl (Or.inr (b_i.mpr hv))) ⟨rfl, v, rfl, Or.inr hv, fun _ => ⟨by omega, by omega⟩, fun _ => hv⟩
def dyf (x t r t' : Int32) : Prop := (1 ≤ x.toInt ∧ x.toInt ≤ 365 ∧ t.toInt + x.toInt ≤ 3649 ∧ t'.toInt = t.toInt + x.toInt ∧ r.toInt = t.toInt + x.toInt) ∨ (¬ (1 ≤ x.toInt ∧ x.toInt ≤ 365 ∧ t.toInt + x.toInt ≤ 3649) ∧ t' = t ∧ r.toInt = -1)
theorem dyf_eq {x t r1 t1 r2 t2 : Int32} (h1 : dyf x t r1 t1) (h2 : dyf x t r2 t2) : r1.toInt = r2.toInt ∧ t1 = t2 := by
  unfold dyf at h1 h2
  rcases h1 with ⟨a, b, c, d, e⟩ | ⟨a, b, c⟩ <;> rcases h2 with ⟨a', b', c', d', e'⟩ | ⟨a', b', c'⟩
  · exact ⟨by omega, b_i.mpr (by omega)⟩
  · exact absurd ⟨a, b, c⟩ a'
  · exact absurd ⟨a', b', c'⟩ a
  · exact ⟨by omega, b.trans b'.symm⟩
theorem days_144 {X : aX} {σ : List Nat} {h : aH} {x t : Int32} {fs : List Value} (I : dI σ h) (c : h.1[1]? = some (.inr (6, fs))) (F : fs[0]? = some (.int t)) : Wp X 1 zM144 (fun v h' => dI σ h' ∧ dG [(1, 0)] σ h σ h' ∧ ∃ (r t' : Int32) (fs' : List Value), v = some (.int r) ∧ h'.1[1]? = some (.inr (6, fs')) ∧ fs'[0]? = some (.int t') ∧ (∀ i, 0 ≠ i → fs'[i]? = fs[i]?) ∧ (∀ q, 1 ≠ q → h'.1[q]? = h.1[q]?) ∧ dyf x t r t') 0 [some (.ref 0), some (.int x)] [] h := by
  obtain ⟨t0, F0, t1, t2⟩ := hI_i I c (f := 0) (lo := 0) (hi := 3649) (by decide +kernel)
  cases F.symm.trans F0
  have kb : ¬ (1 ≤ x.toInt ∧ x.toInt ≤ 365 ∧ t.toInt + x.toInt ≤ 3649) → Wp X 1 zM144 (fun v h' => dI σ h' ∧ dG [(1, 0)] σ h σ h' ∧ ∃ (r t' : Int32) (fs' : List Value), v = some (.int r) ∧ h'.1[1]? = some (.inr (6, fs')) ∧ fs'[0]? = some (.int t') ∧ (∀ i, 0 ≠ i → fs'[i]? = fs[i]?) ∧ (∀ q, 1 ≠ q → h'.1[q]? = h.1[q]?) ∧ dyf x t r t') 26 [some (.ref 0), some (.int x)] [] h := fun q => w_iconst f144_26 (fun v hv => wp_end (fun n d => r_ireturn f144_27 rfl) ⟨I, dG_refl _ _ _, v, t, fs, rfl, c, F, fun _ _ => rfl, fun _ _ => rfl, Or.inr ⟨q, rfl, hv⟩⟩)
  refine wp1 (fun n d => r_iloadn f144_0 rfl) ?_
  refine w_iconst f144_1 (fun v1 hv1 => ?_)
  refine w_sipush f144_2 (fun v2 hv2 => ?_)
  refine wp_in (lv := 0) (Y := zM137) (within_wp) (fun n d v h' e => r_stat (as := [.int x, .int v1, .int v2]) (r := []) f144_5 rfl (show zmt[137]? = some zM137 from rfl) rfl rfl rfl rfl rfl rfl e) (by first | decide | omega) ?_
  rintro v h' ⟨rfl, v5, rfl, z, hr⟩
  show Wp _ _ _ _ 8 [some (.ref 0), some (.int x)] [.int v5] _
  refine w_if_eq f144_8 (fun q => kb (by omega)) (fun q8 => ?_)
  have hx := hr.mp (by omega)
  refine wp1 (fun n d => r_aloadn f144_11 rfl) ?_
  obtain ⟨fs1001, c1001⟩ := hI_o I (r := 0) (ci := 11) (by decide +kernel)
  have F1002 := hI_r I c1001 (f := 0) (q := 1) (by decide +kernel)
  refine w_get f144_12 c1001 F1002 ?_
  refine w_get f144_15 c F ?_
  refine wp1 (fun n d => r_iloadn f144_18 rfl) ?_
  refine w_iadd f144_19 (by omega) (by omega) (fun v19 hv19 => ?_)
  refine w_sipush f144_20 (fun v20 hv20 => ?_)
  refine w_icmp_le f144_23 (fun e => ?_) (fun e => kb (by omega))
  refine wp1 (fun n d => r_aloadn f144_28 rfl) ?_
  refine w_get f144_29 c1001 F1002 ?_
  refine wp1 (fun n d => r_dup f144_32 rfl) ?_
  refine w_get f144_33 c F ?_
  refine wp1 (fun n d => r_iloadn f144_36 rfl) ?_
  refine w_iadd f144_37 (by omega) (by omega) (fun v37 hv37 => ?_)
  refine w_putI f144_38 c I (W := [(1, 0)]) (lo := 0) (hi := 3649) (by decide +kernel) (by decide) (by decide) (by omega) (by omega) (by decide) (by first | rfl | (simp [aok, zY])) (fun h1003 fs1003 I1003 G1003 c1003 Fx1003 nf1003 ne1003 => ?_)
  have c1004 := (ne1003 0 (by decide)).trans c1001
  refine wp1 (fun n d => r_aloadn f144_41 rfl) ?_
  refine w_get f144_42 c1004 F1002 ?_
  refine w_get f144_45 c1003 Fx1003 ?_
  exact wp_end (fun n d => r_ireturn f144_48 rfl) ⟨I1003, G1003, _, _, _, rfl, c1003, Fx1003, nf1003, ne1003, Or.inl ⟨by omega, by omega, by omega, by omega, by omega⟩⟩
theorem days_199 {X : aX} {σ : List Nat} {h : aH} {x t : Int32} {fs : List Value} (I : dI σ h) (c : h.1[72]? = some (.inr (12, fs))) (F : fs[1]? = some (.int t)) : Wp X 1 zM199 (fun v h' => dI σ h' ∧ dG [(72, 1)] σ h σ h' ∧ ∃ (r t' : Int32) (fs' : List Value), v = some (.int r) ∧ h'.1[72]? = some (.inr (12, fs')) ∧ fs'[1]? = some (.int t') ∧ (∀ i, 1 ≠ i → fs'[i]? = fs[i]?) ∧ (∀ q, 72 ≠ q → h'.1[q]? = h.1[q]?) ∧ dyf x t r t') 0 [some (.ref 72), some (.int x)] [] h := by
  obtain ⟨t0, F0, t1, t2⟩ := hI_i I c (f := 1) (lo := 0) (hi := 3649) (by decide +kernel)
  cases F.symm.trans F0
  have kb : ¬ (1 ≤ x.toInt ∧ x.toInt ≤ 365 ∧ t.toInt + x.toInt ≤ 3649) → Wp X 1 zM199 (fun v h' => dI σ h' ∧ dG [(72, 1)] σ h σ h' ∧ ∃ (r t' : Int32) (fs' : List Value), v = some (.int r) ∧ h'.1[72]? = some (.inr (12, fs')) ∧ fs'[1]? = some (.int t') ∧ (∀ i, 1 ≠ i → fs'[i]? = fs[i]?) ∧ (∀ q, 72 ≠ q → h'.1[q]? = h.1[q]?) ∧ dyf x t r t') 23 [some (.ref 72), some (.int x)] [] h := fun q => w_iconst f199_23 (fun v hv => wp_end (fun n d => r_ireturn f199_24 rfl) ⟨I, dG_refl _ _ _, v, t, fs, rfl, c, F, fun _ _ => rfl, fun _ _ => rfl, Or.inr ⟨q, rfl, hv⟩⟩)
  refine wp1 (fun n d => r_iloadn f199_0 rfl) ?_
  refine w_iconst f199_1 (fun v1 hv1 => ?_)
  refine w_sipush f199_2 (fun v2 hv2 => ?_)
  refine wp_in (lv := 0) (Y := zM196) (inx_wp) (fun n d v h' e => r_stat (as := [.int x, .int v1, .int v2]) (r := []) f199_5 rfl (show zmt[196]? = some zM196 from rfl) rfl rfl rfl rfl rfl rfl e) (by first | decide | omega) ?_
  rintro v h' ⟨rfl, v5, rfl, z, hr⟩
  show Wp _ _ _ _ 8 [some (.ref 72), some (.int x)] [.int v5] _
  refine w_if_eq f199_8 (fun q => kb (by omega)) (fun q8 => ?_)
  have hx := hr.mp (by omega)
  refine wp1 (fun n d => r_aloadn f199_11 rfl) ?_
  refine w_get f199_12 c F ?_
  refine wp1 (fun n d => r_iloadn f199_15 rfl) ?_
  refine w_iadd f199_16 (by omega) (by omega) (fun v16 hv16 => ?_)
  refine w_sipush f199_17 (fun v17 hv17 => ?_)
  refine w_icmp_le f199_20 (fun e => ?_) (fun e => kb (by omega))
  refine wp1 (fun n d => r_aloadn f199_25 rfl) ?_
  refine wp1 (fun n d => r_dup f199_26 rfl) ?_
  refine w_get f199_27 c F ?_
  refine wp1 (fun n d => r_iloadn f199_30 rfl) ?_
  refine w_iadd f199_31 (by omega) (by omega) (fun v31 hv31 => ?_)
  refine w_putI f199_32 c I (W := [(72, 1)]) (lo := 0) (hi := 3649) (by decide +kernel) (by decide) (by decide) (by omega) (by omega) (by decide) (by first | rfl | (simp [aok, zY])) (fun h1001 fs1001 I1001 G1001 c1001 Fx1001 nf1001 ne1001 => ?_)
  refine wp1 (fun n d => r_aloadn f199_35 rfl) ?_
  refine w_get f199_36 c1001 Fx1001 ?_
  exact wp_end (fun n d => r_ireturn f199_39 rfl) ⟨I1001, G1001, _, _, _, rfl, c1001, Fx1001, nf1001, ne1001, Or.inl ⟨by omega, by omega, by omega, by omega, by omega⟩⟩
end
section
-- ===== permit, with what it keeps =====
def cC350 : cC := (80, 3, [(1, 1), (1, 2), (1, 3), (1, 4), (2, 0), (3, 0), (4, 0), (5, 0), (6, 0), (7, 0)], ([(3, 1, .ofNat 0), (1, 1, .ofNat 0), (0, 0, .ofNat 0), (0, 0, .ofNat 0)], [], ([(.ofNat 0, .ofNat 0), (.ofNat 1, .ofNat 3649), (.ofNat 0, .ofNat 149), (.ofNat 0, .ofNat 149)], [(3, 2, .ofNat 0)], [], [], [(1, 1, 1, 2, .ofNat 0), (1, 4, 1, 3, .ofNat 0)], [], [])), [([], [(1, 1, .ofNat 0)], ([(.ofNat 0, .ofNat 0), (.ofNat 0, .ofNat 149), (.ofNat 0, .ofNat 149)], [(2, 1, .ofNat 0)], [], [], [(1, 4, 1, 2, .ofNat 1), (1, 1, 1, 1, .ofNat 1)], [], []))], [(20, ([(3, 1, .ofNat 0), (1, 1, .ofNat 0), (1, 2, .ofNat 0), (1, 3, .ofNat 0)], [], ([(.ofNat 0, .ofNat 0), (.ofNat 1, .ofNat 3649), (.ofNat 0, .ofNat 149), (.ofNat 0, .ofNat 149), (.negSucc 2147483647, .ofNat 2147483647), (.negSucc 2147483647, .ofNat 2147483647), (.ofNat 0, .ofNat 3649), (.ofNat 0, .ofNat 149)], [(3, 2, .ofNat 0), (3, 7, .ofNat 0), (7, 2, .ofNat 0)], [], [], [(1, 1, 1, 2, .ofNat 1), (1, 3, 1, 4, .ofNat 0), (1, 2, 1, 5, .ofNat 0), (1, 0, 1, 6, .ofNat 0), (1, 4, 1, 7, .ofNat 0)], [], [])), (.ofNat 0, [(.ofNat 1, 3)]))])
def cC351 : cC := (151, 4, [(1, 1), (1, 2), (1, 3), (1, 4), (2, 0), (3, 0), (4, 0), (5, 0), (6, 0), (7, 0)], ([(3, 0, .ofNat 0), (1, 1, .ofNat 0)], [], ([(.ofNat 0, .ofNat 0), (.negSucc 2147483647, .ofNat 2147483647), (.ofNat 0, .ofNat 150), (.ofNat 0, .ofNat 150)], [(3, 2, .ofNat 0)], [], [], [(1, 1, 1, 2, .ofNat 0), (1, 4, 1, 3, .ofNat 0)], [], [])), [([], [(1, 1, .ofNat 0)], ([(.ofNat 0, .ofNat 0), (.negSucc 2147483647, .ofNat 149), (.ofNat 0, .ofNat 150), (.ofNat 0, .ofNat 150)], [(1, 2, .ofNat 0), (3, 2, .ofNat 0)], [], [], [(1, 1, 1, 2, .ofNat 0), (1, 4, 1, 3, .ofNat 0)], [], []))], [])
def cCTq : List cC := [cC350, cC351]
def cCMq : List (List Nat) := (List.replicate 333 []).set 80 [0]
theorem cq_0 : cchk cCTq cCMq 3000 0 = true := by decide +kernel
theorem cq_1 : cchk cCTq cCMq 3000 1 = true := by decide +kernel
theorem cCMq_t : cCMt cCTq cCMq = true := by decide +kernel
theorem hT_q {X : aX} (hX : X 0 = some (8, zab)) : hT X cCTq 2 := tstep hX cCMq_t (tstep hX cCMq_t (fun j hj => absurd hj (by omega)) cq_0) cq_1
end
section
-- ===== blank, close, worth on both sides =====
theorem f140_0 : aF 0 zM140.2.2.2.2.2.2.2 = some (0, (.iload_n 0), 1, 0, 0) := by decide +kernel
theorem f140_1 : aF 1 zM140.2.2.2.2.2.2.2 = some (1, (.iconst 0), 1, 0, 0) := by decide +kernel
theorem f140_2 : aF 2 zM140.2.2.2.2.2.2.2 = some (2, (.iconst 3), 1, 0, 0) := by decide +kernel
theorem f140_3 : aF 3 zM140.2.2.2.2.2.2.2 = some (3, (.invokestatic 85), 3, 137, 0) := by decide +kernel
theorem f140_6 : aF 6 zM140.2.2.2.2.2.2.2 = some (6, .ireturn, 1, 0, 0) := by decide +kernel
theorem f141_0 : aF 0 zM141.2.2.2.2.2.2.2 = some (0, (.iload_n 0), 1, 0, 0) := by decide +kernel
theorem f141_1 : aF 1 zM141.2.2.2.2.2.2.2 = some (1, (.iconst 0), 1, 0, 0) := by decide +kernel
theorem f141_2 : aF 2 zM141.2.2.2.2.2.2.2 = some (2, (.bipush 7), 2, 0, 0) := by decide +kernel
theorem f141_4 : aF 4 zM141.2.2.2.2.2.2.2 = some (4, (.invokestatic 85), 3, 137, 0) := by decide +kernel
theorem f141_7 : aF 7 zM141.2.2.2.2.2.2.2 = some (7, .ireturn, 1, 0, 0) := by decide +kernel
theorem f158_0 : aF 0 zM158.2.2.2.2.2.2.2 = some (0, (.iload_n 1), 1, 0, 0) := by decide +kernel
theorem f158_1 : aF 1 zM158.2.2.2.2.2.2.2 = some (1, (.invokestatic 89), 3, 140, 0) := by decide +kernel
theorem f158_4 : aF 4 zM158.2.2.2.2.2.2.2 = some (4, (.ifCond .eq 14), 3, 18, 0) := by decide +kernel
theorem f158_7 : aF 7 zM158.2.2.2.2.2.2.2 = some (7, (.iload_n 2), 1, 0, 0) := by decide +kernel
theorem f158_8 : aF 8 zM158.2.2.2.2.2.2.2 = some (8, (.iconst 0), 1, 0, 0) := by decide +kernel
theorem f158_9 : aF 9 zM158.2.2.2.2.2.2.2 = some (9, (.sipush 364), 3, 0, 0) := by decide +kernel
theorem f158_12 : aF 12 zM158.2.2.2.2.2.2.2 = some (12, (.invokestatic 85), 3, 137, 0) := by decide +kernel
theorem f158_15 : aF 15 zM158.2.2.2.2.2.2.2 = some (15, (.ifCond .ne 5), 3, 20, 0) := by decide +kernel
theorem f158_18 : aF 18 zM158.2.2.2.2.2.2.2 = some (18, (.iconst (-1)), 1, 0, 0) := by decide +kernel
theorem f158_19 : aF 19 zM158.2.2.2.2.2.2.2 = some (19, .ireturn, 1, 0, 0) := by decide +kernel
theorem f158_20 : aF 20 zM158.2.2.2.2.2.2.2 = some (20, (.aload_n 0), 1, 0, 0) := by decide +kernel
theorem f158_21 : aF 21 zM158.2.2.2.2.2.2.2 = some (21, (.getfield 28), 3, 11, 2) := by decide +kernel
theorem f158_24 : aF 24 zM158.2.2.2.2.2.2.2 = some (24, (.getfield 178), 3, 2, 9) := by decide +kernel
theorem f158_27 : aF 27 zM158.2.2.2.2.2.2.2 = some (27, (.iload_n 1), 1, 0, 0) := by decide +kernel
theorem f158_28 : aF 28 zM158.2.2.2.2.2.2.2 = some (28, .iaload, 1, 0, 0) := by decide +kernel
theorem f158_29 : aF 29 zM158.2.2.2.2.2.2.2 = some (29, (.istore_n 3), 1, 0, 0) := by decide +kernel
theorem f158_30 : aF 30 zM158.2.2.2.2.2.2.2 = some (30, (.aload_n 0), 1, 0, 0) := by decide +kernel
theorem f158_31 : aF 31 zM158.2.2.2.2.2.2.2 = some (31, (.getfield 28), 3, 11, 2) := by decide +kernel
theorem f158_34 : aF 34 zM158.2.2.2.2.2.2.2 = some (34, (.getfield 178), 3, 2, 9) := by decide +kernel
theorem f158_37 : aF 37 zM158.2.2.2.2.2.2.2 = some (37, (.iload_n 1), 1, 0, 0) := by decide +kernel
theorem f158_38 : aF 38 zM158.2.2.2.2.2.2.2 = some (38, (.iload_n 2), 1, 0, 0) := by decide +kernel
theorem f158_39 : aF 39 zM158.2.2.2.2.2.2.2 = some (39, .iastore, 1, 0, 0) := by decide +kernel
theorem f158_40 : aF 40 zM158.2.2.2.2.2.2.2 = some (40, (.iload_n 3), 1, 0, 0) := by decide +kernel
theorem f158_41 : aF 41 zM158.2.2.2.2.2.2.2 = some (41, .ireturn, 1, 0, 0) := by decide +kernel
theorem f165_0 : aF 0 zM165.2.2.2.2.2.2.2 = some (0, (.aload_n 0), 1, 0, 0) := by decide +kernel
theorem f165_1 : aF 1 zM165.2.2.2.2.2.2.2 = some (1, (.getfield 67), 3, 11, 7) := by decide +kernel
theorem f165_4 : aF 4 zM165.2.2.2.2.2.2.2 = some (4, (.getfield 245), 3, 3, 1) := by decide +kernel
theorem f165_7 : aF 7 zM165.2.2.2.2.2.2.2 = some (7, (.istore_n 2), 1, 0, 0) := by decide +kernel
theorem f165_8 : aF 8 zM165.2.2.2.2.2.2.2 = some (8, (.aload_n 0), 1, 0, 0) := by decide +kernel
theorem f165_9 : aF 9 zM165.2.2.2.2.2.2.2 = some (9, (.getfield 67), 3, 11, 7) := by decide +kernel
theorem f165_12 : aF 12 zM165.2.2.2.2.2.2.2 = some (12, (.iload_n 1), 1, 0, 0) := by decide +kernel
theorem f165_13 : aF 13 zM165.2.2.2.2.2.2.2 = some (13, (.putfield 245), 3, 3, 1) := by decide +kernel
theorem f165_16 : aF 16 zM165.2.2.2.2.2.2.2 = some (16, (.iload_n 2), 1, 0, 0) := by decide +kernel
theorem f165_17 : aF 17 zM165.2.2.2.2.2.2.2 = some (17, .ireturn, 1, 0, 0) := by decide +kernel
theorem f182_0 : aF 0 zM182.2.2.2.2.2.2.2 = some (0, (.iload_n 1), 1, 0, 0) := by decide +kernel
theorem f182_1 : aF 1 zM182.2.2.2.2.2.2.2 = some (1, (.invokestatic 173), 3, 141, 0) := by decide +kernel
theorem f182_4 : aF 4 zM182.2.2.2.2.2.2.2 = some (4, (.ifCond .eq 13), 3, 17, 0) := by decide +kernel
theorem f182_7 : aF 7 zM182.2.2.2.2.2.2.2 = some (7, (.iload_n 2), 1, 0, 0) := by decide +kernel
theorem f182_8 : aF 8 zM182.2.2.2.2.2.2.2 = some (8, (.iconst 0), 1, 0, 0) := by decide +kernel
theorem f182_9 : aF 9 zM182.2.2.2.2.2.2.2 = some (9, (.bipush 99), 2, 0, 0) := by decide +kernel
theorem f182_11 : aF 11 zM182.2.2.2.2.2.2.2 = some (11, (.invokestatic 85), 3, 137, 0) := by decide +kernel
theorem f182_14 : aF 14 zM182.2.2.2.2.2.2.2 = some (14, (.ifCond .ne 5), 3, 19, 0) := by decide +kernel
theorem f182_17 : aF 17 zM182.2.2.2.2.2.2.2 = some (17, (.iconst (-1)), 1, 0, 0) := by decide +kernel
theorem f182_18 : aF 18 zM182.2.2.2.2.2.2.2 = some (18, .ireturn, 1, 0, 0) := by decide +kernel
theorem f182_19 : aF 19 zM182.2.2.2.2.2.2.2 = some (19, (.aload_n 0), 1, 0, 0) := by decide +kernel
theorem f182_20 : aF 20 zM182.2.2.2.2.2.2.2 = some (20, (.getfield 60), 3, 11, 6) := by decide +kernel
theorem f182_23 : aF 23 zM182.2.2.2.2.2.2.2 = some (23, (.getfield 330), 3, 4, 2) := by decide +kernel
theorem f182_26 : aF 26 zM182.2.2.2.2.2.2.2 = some (26, (.iload_n 1), 1, 0, 0) := by decide +kernel
theorem f182_27 : aF 27 zM182.2.2.2.2.2.2.2 = some (27, .iaload, 1, 0, 0) := by decide +kernel
theorem f182_28 : aF 28 zM182.2.2.2.2.2.2.2 = some (28, (.istore_n 3), 1, 0, 0) := by decide +kernel
theorem f182_29 : aF 29 zM182.2.2.2.2.2.2.2 = some (29, (.aload_n 0), 1, 0, 0) := by decide +kernel
theorem f182_30 : aF 30 zM182.2.2.2.2.2.2.2 = some (30, (.getfield 60), 3, 11, 6) := by decide +kernel
theorem f182_33 : aF 33 zM182.2.2.2.2.2.2.2 = some (33, (.getfield 330), 3, 4, 2) := by decide +kernel
theorem f182_36 : aF 36 zM182.2.2.2.2.2.2.2 = some (36, (.iload_n 1), 1, 0, 0) := by decide +kernel
theorem f182_37 : aF 37 zM182.2.2.2.2.2.2.2 = some (37, (.iload_n 2), 1, 0, 0) := by decide +kernel
theorem f182_38 : aF 38 zM182.2.2.2.2.2.2.2 = some (38, .iastore, 1, 0, 0) := by decide +kernel
theorem f182_39 : aF 39 zM182.2.2.2.2.2.2.2 = some (39, (.iload_n 3), 1, 0, 0) := by decide +kernel
theorem f182_40 : aF 40 zM182.2.2.2.2.2.2.2 = some (40, .ireturn, 1, 0, 0) := by decide +kernel
theorem f231_0 : aF 0 zM231.2.2.2.2.2.2.2 = some (0, (.iload_n 1), 1, 0, 0) := by decide +kernel
theorem f231_1 : aF 1 zM231.2.2.2.2.2.2.2 = some (1, (.invokestatic 280), 3, 206, 0) := by decide +kernel
theorem f231_4 : aF 4 zM231.2.2.2.2.2.2.2 = some (4, (.ifCond .eq 14), 3, 18, 0) := by decide +kernel
theorem f231_7 : aF 7 zM231.2.2.2.2.2.2.2 = some (7, (.iload_n 2), 1, 0, 0) := by decide +kernel
theorem f231_8 : aF 8 zM231.2.2.2.2.2.2.2 = some (8, (.iconst 0), 1, 0, 0) := by decide +kernel
theorem f231_9 : aF 9 zM231.2.2.2.2.2.2.2 = some (9, (.sipush 364), 3, 0, 0) := by decide +kernel
theorem f231_12 : aF 12 zM231.2.2.2.2.2.2.2 = some (12, (.invokestatic 258), 3, 196, 0) := by decide +kernel
theorem f231_15 : aF 15 zM231.2.2.2.2.2.2.2 = some (15, (.ifCond .ne 5), 3, 20, 0) := by decide +kernel
theorem f231_18 : aF 18 zM231.2.2.2.2.2.2.2 = some (18, (.iconst (-1)), 1, 0, 0) := by decide +kernel
theorem f231_19 : aF 19 zM231.2.2.2.2.2.2.2 = some (19, .ireturn, 1, 0, 0) := by decide +kernel
theorem f231_20 : aF 20 zM231.2.2.2.2.2.2.2 = some (20, (.aload_n 0), 1, 0, 0) := by decide +kernel
theorem f231_21 : aF 21 zM231.2.2.2.2.2.2.2 = some (21, (.getfield 64), 3, 12, 24) := by decide +kernel
theorem f231_24 : aF 24 zM231.2.2.2.2.2.2.2 = some (24, (.iload_n 1), 1, 0, 0) := by decide +kernel
theorem f231_25 : aF 25 zM231.2.2.2.2.2.2.2 = some (25, .iaload, 1, 0, 0) := by decide +kernel
theorem f231_26 : aF 26 zM231.2.2.2.2.2.2.2 = some (26, (.istore_n 3), 1, 0, 0) := by decide +kernel
theorem f231_27 : aF 27 zM231.2.2.2.2.2.2.2 = some (27, (.aload_n 0), 1, 0, 0) := by decide +kernel
theorem f231_28 : aF 28 zM231.2.2.2.2.2.2.2 = some (28, (.getfield 64), 3, 12, 24) := by decide +kernel
theorem f231_31 : aF 31 zM231.2.2.2.2.2.2.2 = some (31, (.iload_n 1), 1, 0, 0) := by decide +kernel
theorem f231_32 : aF 32 zM231.2.2.2.2.2.2.2 = some (32, (.iload_n 2), 1, 0, 0) := by decide +kernel
theorem f231_33 : aF 33 zM231.2.2.2.2.2.2.2 = some (33, .iastore, 1, 0, 0) := by decide +kernel
theorem f231_34 : aF 34 zM231.2.2.2.2.2.2.2 = some (34, (.iload_n 3), 1, 0, 0) := by decide +kernel
theorem f231_35 : aF 35 zM231.2.2.2.2.2.2.2 = some (35, .ireturn, 1, 0, 0) := by decide +kernel
theorem f246_0 : aF 0 zM246.2.2.2.2.2.2.2 = some (0, (.aload_n 0), 1, 0, 0) := by decide +kernel
theorem f246_1 : aF 1 zM246.2.2.2.2.2.2.2 = some (1, (.getfield 145), 3, 12, 52) := by decide +kernel
theorem f246_4 : aF 4 zM246.2.2.2.2.2.2.2 = some (4, (.istore_n 2), 1, 0, 0) := by decide +kernel
theorem f246_5 : aF 5 zM246.2.2.2.2.2.2.2 = some (5, (.aload_n 0), 1, 0, 0) := by decide +kernel
theorem f246_6 : aF 6 zM246.2.2.2.2.2.2.2 = some (6, (.iload_n 1), 1, 0, 0) := by decide +kernel
theorem f246_7 : aF 7 zM246.2.2.2.2.2.2.2 = some (7, (.putfield 145), 3, 12, 52) := by decide +kernel
theorem f246_10 : aF 10 zM246.2.2.2.2.2.2.2 = some (10, (.iload_n 2), 1, 0, 0) := by decide +kernel
theorem f246_11 : aF 11 zM246.2.2.2.2.2.2.2 = some (11, .ireturn, 1, 0, 0) := by decide +kernel
theorem f300_0 : aF 0 zM300.2.2.2.2.2.2.2 = some (0, (.iload_n 1), 1, 0, 0) := by decide +kernel
theorem f300_1 : aF 1 zM300.2.2.2.2.2.2.2 = some (1, (.iconst 0), 1, 0, 0) := by decide +kernel
theorem f300_2 : aF 2 zM300.2.2.2.2.2.2.2 = some (2, (.bipush 7), 2, 0, 0) := by decide +kernel
theorem f300_4 : aF 4 zM300.2.2.2.2.2.2.2 = some (4, (.invokestatic 258), 3, 196, 0) := by decide +kernel
theorem f300_7 : aF 7 zM300.2.2.2.2.2.2.2 = some (7, (.ifCond .eq 13), 3, 20, 0) := by decide +kernel
theorem f300_10 : aF 10 zM300.2.2.2.2.2.2.2 = some (10, (.iload_n 2), 1, 0, 0) := by decide +kernel
theorem f300_11 : aF 11 zM300.2.2.2.2.2.2.2 = some (11, (.iconst 0), 1, 0, 0) := by decide +kernel
theorem f300_12 : aF 12 zM300.2.2.2.2.2.2.2 = some (12, (.bipush 99), 2, 0, 0) := by decide +kernel
theorem f300_14 : aF 14 zM300.2.2.2.2.2.2.2 = some (14, (.invokestatic 258), 3, 196, 0) := by decide +kernel
theorem f300_17 : aF 17 zM300.2.2.2.2.2.2.2 = some (17, (.ifCond .ne 5), 3, 22, 0) := by decide +kernel
theorem f300_20 : aF 20 zM300.2.2.2.2.2.2.2 = some (20, (.iconst (-1)), 1, 0, 0) := by decide +kernel
theorem f300_21 : aF 21 zM300.2.2.2.2.2.2.2 = some (21, .ireturn, 1, 0, 0) := by decide +kernel
theorem f300_22 : aF 22 zM300.2.2.2.2.2.2.2 = some (22, (.aload_n 0), 1, 0, 0) := by decide +kernel
theorem f300_23 : aF 23 zM300.2.2.2.2.2.2.2 = some (23, (.getfield 225), 3, 12, 89) := by decide +kernel
theorem f300_26 : aF 26 zM300.2.2.2.2.2.2.2 = some (26, (.iload_n 1), 1, 0, 0) := by decide +kernel
theorem f300_27 : aF 27 zM300.2.2.2.2.2.2.2 = some (27, .iaload, 1, 0, 0) := by decide +kernel
theorem f300_28 : aF 28 zM300.2.2.2.2.2.2.2 = some (28, (.istore_n 3), 1, 0, 0) := by decide +kernel
theorem f300_29 : aF 29 zM300.2.2.2.2.2.2.2 = some (29, (.aload_n 0), 1, 0, 0) := by decide +kernel
theorem f300_30 : aF 30 zM300.2.2.2.2.2.2.2 = some (30, (.getfield 225), 3, 12, 89) := by decide +kernel
theorem f300_33 : aF 33 zM300.2.2.2.2.2.2.2 = some (33, (.iload_n 1), 1, 0, 0) := by decide +kernel
theorem f300_34 : aF 34 zM300.2.2.2.2.2.2.2 = some (34, (.iload_n 2), 1, 0, 0) := by decide +kernel
theorem f300_35 : aF 35 zM300.2.2.2.2.2.2.2 = some (35, .iastore, 1, 0, 0) := by decide +kernel
theorem f300_36 : aF 36 zM300.2.2.2.2.2.2.2 = some (36, (.iload_n 3), 1, 0, 0) := by decide +kernel
theorem f300_37 : aF 37 zM300.2.2.2.2.2.2.2 = some (37, .ireturn, 1, 0, 0) := by decide +kernel
def JF (r ci f r' ci' f' : Nat) (h : aH) : Prop := ∃ (fs fs' : List Value) (v : Int32), h.1[r]? = some (.inr (ci, fs)) ∧ fs[f]? = some (.int v) ∧ h.1[r']? = some (.inr (ci', fs')) ∧ fs'[f']? = some (.int v)
theorem JF_dG {r ci f r' ci' f' : Nat} {σ σ' : List Nat} {h h' : aH} {W : List (Nat × Nat)} (J : JF r ci f r' ci' f' h) (I : dI σ h) (G : dG W σ h σ' h') (hr : (decide (r < 146) && decide (r' < 146) && !(cWn W r f) && !(cWn W r' f')) = true) : JF r ci f r' ci' f' h' := by
  simp only [Bool.and_eq_true, Bool.not_eq_true', decide_eq_true_eq] at hr
  obtain ⟨⟨⟨k1, k2⟩, k3⟩, k4⟩ := hr
  obtain ⟨fs, fs', v, c1, a1, c2, a2⟩ := J
  obtain ⟨gs, d1, e1⟩ := dG_o I.1 G c1 k1
  obtain ⟨gs', d2, e2⟩ := dG_o I.1 G c2 k2
  exact ⟨gs, gs', v, d1, (e1 f k3).trans a1, d2, (e2 f' k4).trans a2⟩
def JA (r r' n : Nat) (h : aH) : Prop := ∃ g g' : Nat → Int32, h.1[r]? = some (.inl (0, n, .inl g)) ∧ h.1[r']? = some (.inl (0, n, .inl g')) ∧ ∀ j, j < n → g j = g' j
theorem JA_dG {r r' n : Nat} {σ σ' : List Nat} {h h' : aH} {W : List (Nat × Nat)} (J : JA r r' n h) (I : dI σ h) (G : dG W σ h σ' h') (hr : (decide (r < 146) && decide (r' < 146) && !(cWn W r 0) && !(cWn W r' 0)) = true) : JA r r' n h' := by
  simp only [Bool.and_eq_true, Bool.not_eq_true', decide_eq_true_eq] at hr
  obtain ⟨⟨⟨k1, k2⟩, k3⟩, k4⟩ := hr
  obtain ⟨g, g', c1, c2, e⟩ := J
  exact ⟨g, g', dG_a I.1 G c1 k1 k3, dG_a I.1 G c2 k2 k4, e⟩
def clf (n m : Nat) (x y : Int32) (g : Nat → Int32) (r : Int32) (g' : Nat → Int32) : Prop := ((0 ≤ x.toInt ∧ x.toInt < (n : Int) ∧ 0 ≤ y.toInt ∧ y.toInt ≤ (m : Int)) ∧ r = g x.toInt.toNat ∧ g' = upd g x.toInt.toNat y) ∨ (¬ (0 ≤ x.toInt ∧ x.toInt < (n : Int) ∧ 0 ≤ y.toInt ∧ y.toInt ≤ (m : Int)) ∧ r.toInt = -1 ∧ g' = g)
theorem clf_eq {n m : Nat} {x y r1 r2 : Int32} {g1 g1' g2 g2' : Nat → Int32} (h1 : clf n m x y g1 r1 g1') (h2 : clf n m x y g2 r2 g2') (e : ∀ j, j < n → g1 j = g2 j) : r1.toInt = r2.toInt ∧ ∀ j, j < n → g1' j = g2' j := by
  unfold clf at h1 h2
  rcases h1 with ⟨a, b, c⟩ | ⟨a, b, c⟩ <;> rcases h2 with ⟨a', b', c'⟩ | ⟨a', b', c'⟩
  · subst b b' c c'
    refine ⟨by rw [e _ (by omega)], fun j hj => ?_⟩
    unfold upd
    rw [e j hj]
  · exact absurd a a'
  · exact absurd a' a
  · subst c c'
    exact ⟨by omega, e⟩
theorem blank_165 {X : aX} {σ : List Nat} {h : aH} {x t : Int32} {fs : List Value} (I : dI σ h) (c : h.1[63]? = some (.inr (3, fs))) (F : fs[1]? = some (.int t)) : Wp X 0 zM165 (fun v h' => dI σ h' ∧ dG [(63, 1)] σ h σ h' ∧ ∃ fs' : List Value, v = some (.int t) ∧ h'.1[63]? = some (.inr (3, fs')) ∧ fs'[1]? = some (.int x)) 0 [some (.ref 0), some (.int x), none] [] h := by
  refine wp1 (fun n d => r_aloadn f165_0 rfl) ?_
  obtain ⟨fs1001, c1001⟩ := hI_o I (r := 0) (ci := 11) (by decide +kernel)
  have F1002 := hI_r I c1001 (f := 7) (q := 63) (by decide +kernel)
  refine w_get f165_1 c1001 F1002 ?_
  refine w_get f165_4 c F ?_
  refine wp1 (fun n d => r_istoren (L' := [some (.ref 0), some (.int x), some (.int t)]) f165_7 rfl rfl) ?_
  refine wp1 (fun n d => r_aloadn f165_8 rfl) ?_
  refine w_get f165_9 c1001 F1002 ?_
  refine wp1 (fun n d => r_iloadn f165_12 rfl) ?_
  refine w_putI f165_13 c I (W := [(63, 1)]) (lo := (-2147483648)) (hi := 2147483647) (by decide +kernel) (by decide) (by decide) (iR x).1 (iR x).2 (by decide) (by first | rfl | (simp [aok, zY])) (fun h1003 fs1003 I1003 G1003 c1003 Fx1003 nf1003 ne1003 => ?_)
  have c1004 := (ne1003 0 (by decide)).trans c1001
  refine wp1 (fun n d => r_iloadn f165_16 rfl) ?_
  exact wp_end (fun n d => r_ireturn f165_17 rfl) ⟨I1003, G1003, _, rfl, c1003, Fx1003⟩
theorem blank_246 {X : aX} {σ : List Nat} {h : aH} {x t : Int32} {fs : List Value} (I : dI σ h) (c : h.1[72]? = some (.inr (12, fs))) (F : fs[52]? = some (.int t)) : Wp X 0 zM246 (fun v h' => dI σ h' ∧ dG [(72, 52)] σ h σ h' ∧ ∃ fs' : List Value, v = some (.int t) ∧ h'.1[72]? = some (.inr (12, fs')) ∧ fs'[52]? = some (.int x)) 0 [some (.ref 72), some (.int x), none] [] h := by
  refine wp1 (fun n d => r_aloadn f246_0 rfl) ?_
  refine w_get f246_1 c F ?_
  refine wp1 (fun n d => r_istoren (L' := [some (.ref 72), some (.int x), some (.int t)]) f246_4 rfl rfl) ?_
  refine wp1 (fun n d => r_aloadn f246_5 rfl) ?_
  refine wp1 (fun n d => r_iloadn f246_6 rfl) ?_
  refine w_putI f246_7 c I (W := [(72, 52)]) (lo := (-2147483648)) (hi := 2147483647) (by decide +kernel) (by decide) (by decide) (iR x).1 (iR x).2 (by decide) (by first | rfl | (simp [aok, zY])) (fun h1001 fs1001 I1001 G1001 c1001 Fx1001 nf1001 ne1001 => ?_)
  refine wp1 (fun n d => r_iloadn f246_10 rfl) ?_
  exact wp_end (fun n d => r_ireturn f246_11 rfl) ⟨I1001, G1001, _, rfl, c1001, Fx1001⟩
theorem rng_140 {X : aX} {h : aH} {x : Int32} : Wp X 1 zM140 (fun v h' => h = h' ∧ ∃ r : Int32, v = some (.int r) ∧ (r.toInt = 0 ∨ r.toInt = 1) ∧ (r.toInt = 1 ↔ 0 ≤ x.toInt ∧ x.toInt ≤ 3)) 0 [some (.int x)] [] h := by
  refine wp1 (fun n d => r_iloadn f140_0 rfl) ?_
  refine w_iconst f140_1 (fun v1 hv1 => ?_)
  refine w_iconst f140_2 (fun v2 hv2 => ?_)
  refine wp_in (lv := 0) (Y := zM137) (within_wp) (fun n d v h' e => r_stat (as := [.int x, .int v1, .int v2]) (r := []) f140_3 rfl (show zmt[137]? = some zM137 from rfl) rfl rfl rfl rfl rfl rfl e) (by first | decide | omega) ?_
  rintro v h' ⟨rfl, v3, rfl, z, hr⟩
  show Wp _ _ _ _ 6 [some (.int x)] [.int v3] _
  exact wp_end (fun n d => r_zreturn f140_6 rfl (z.elim (fun q => Or.inl (b_i.mpr q)) (fun q => Or.inr (b_i.mpr q)))) ⟨rfl, _, rfl, z, ⟨fun e => by have := hr.mp e; omega, fun e => hr.mpr ⟨by omega, by omega⟩⟩⟩
theorem rng_206 {X : aX} {h : aH} {x : Int32} : Wp X 1 zM206 (fun v h' => h = h' ∧ ∃ r : Int32, v = some (.int r) ∧ (r.toInt = 0 ∨ r.toInt = 1) ∧ (r.toInt = 1 ↔ 0 ≤ x.toInt ∧ x.toInt ≤ 3)) 0 [some (.int x)] [] h := by
  refine wp1 (fun n d => r_iloadn f206_0 rfl) ?_
  refine w_iconst f206_1 (fun v1 hv1 => ?_)
  refine w_iconst f206_2 (fun v2 hv2 => ?_)
  refine wp_in (lv := 0) (Y := zM196) (inx_wp) (fun n d v h' e => r_stat (as := [.int x, .int v1, .int v2]) (r := []) f206_3 rfl (show zmt[196]? = some zM196 from rfl) rfl rfl rfl rfl rfl rfl e) (by first | decide | omega) ?_
  rintro v h' ⟨rfl, v3, rfl, z, hr⟩
  show Wp _ _ _ _ 6 [some (.int x)] [.int v3] _
  exact wp_end (fun n d => r_zreturn f206_6 rfl (z.elim (fun q => Or.inl (b_i.mpr q)) (fun q => Or.inr (b_i.mpr q)))) ⟨rfl, _, rfl, z, ⟨fun e => by have := hr.mp e; omega, fun e => hr.mpr ⟨by omega, by omega⟩⟩⟩
theorem rng_141 {X : aX} {h : aH} {x : Int32} : Wp X 1 zM141 (fun v h' => h = h' ∧ ∃ r : Int32, v = some (.int r) ∧ (r.toInt = 0 ∨ r.toInt = 1) ∧ (r.toInt = 1 ↔ 0 ≤ x.toInt ∧ x.toInt ≤ 7)) 0 [some (.int x)] [] h := by
  refine wp1 (fun n d => r_iloadn f141_0 rfl) ?_
  refine w_iconst f141_1 (fun v1 hv1 => ?_)
  refine w_bipush f141_2 (fun v2 hv2 => ?_)
  refine wp_in (lv := 0) (Y := zM137) (within_wp) (fun n d v h' e => r_stat (as := [.int x, .int v1, .int v2]) (r := []) f141_4 rfl (show zmt[137]? = some zM137 from rfl) rfl rfl rfl rfl rfl rfl e) (by first | decide | omega) ?_
  rintro v h' ⟨rfl, v4, rfl, z, hr⟩
  show Wp _ _ _ _ 7 [some (.int x)] [.int v4] _
  exact wp_end (fun n d => r_zreturn f141_7 rfl (z.elim (fun q => Or.inl (b_i.mpr q)) (fun q => Or.inr (b_i.mpr q)))) ⟨rfl, _, rfl, z, ⟨fun e => by have := hr.mp e; omega, fun e => hr.mpr ⟨by omega, by omega⟩⟩⟩
theorem cell_158 {X : aX} {σ : List Nat} {h : aH} {x y : Int32} {g : Nat → Int32} (I : dI σ h) (c : h.1[22]? = some (.inl (0, 4, .inl g))) : Wp X 2 zM158 (fun v h' => dI σ h' ∧ dG [(22, 0)] σ h σ h' ∧ ∃ (r : Int32) (g' : Nat → Int32), v = some (.int r) ∧ h'.1[22]? = some (.inl (0, 4, .inl g')) ∧ clf 4 364 x y g r g') 0 [some (.ref 0), some (.int x), some (.int y), none] [] h := by
  have kb : ¬ (0 ≤ x.toInt ∧ x.toInt < ((4 : Nat) : Int) ∧ 0 ≤ y.toInt ∧ y.toInt ≤ ((364 : Nat) : Int)) → Wp X 2 zM158 (fun v h' => dI σ h' ∧ dG [(22, 0)] σ h σ h' ∧ ∃ (r : Int32) (g' : Nat → Int32), v = some (.int r) ∧ h'.1[22]? = some (.inl (0, 4, .inl g')) ∧ clf 4 364 x y g r g') 18 [some (.ref 0), some (.int x), some (.int y), none] [] h := fun q => w_iconst f158_18 (fun v hv => wp_end (fun n d => r_ireturn f158_19 rfl) ⟨I, dG_refl _ _ _, v, g, rfl, c, Or.inr ⟨q, hv, rfl⟩⟩)
  refine wp1 (fun n d => r_iloadn f158_0 rfl) ?_
  refine wp_in (lv := 1) (Y := zM140) (rng_140) (fun n d v h' e => r_stat (as := [.int x]) (r := []) f158_1 rfl (show zmt[140]? = some zM140 from rfl) rfl rfl rfl rfl rfl rfl e) (by first | decide | omega) ?_
  rintro v h' ⟨rfl, v1, rfl, z1, hr1⟩
  show Wp _ _ _ _ 4 [some (.ref 0), some (.int x), some (.int y), none] [.int v1] _
  refine w_if_eq f158_4 (fun q => kb (by omega)) (fun q1 => ?_)
  refine wp1 (fun n d => r_iloadn f158_7 rfl) ?_
  refine w_iconst f158_8 (fun v8 hv8 => ?_)
  refine w_sipush f158_9 (fun v9 hv9 => ?_)
  refine wp_in (lv := 0) (Y := zM137) (within_wp) (fun n d v h' e => r_stat (as := [.int y, .int v8, .int v9]) (r := []) f158_12 rfl (show zmt[137]? = some zM137 from rfl) rfl rfl rfl rfl rfl rfl e) (by first | decide | omega) ?_
  rintro v h' ⟨rfl, v12, rfl, z2, hr2⟩
  show Wp _ _ _ _ 15 [some (.ref 0), some (.int x), some (.int y), none] [.int v12] _
  refine w_if_ne f158_15 (fun q2 => ?_) (fun q => kb (by omega))
  have w1 := hr1.mp (by omega)
  have w2 := hr2.mp (by omega)
  refine wp1 (fun n d => r_aloadn f158_20 rfl) ?_
  obtain ⟨fs1001, c1001⟩ := hI_o I (r := 0) (ci := 11) (by decide +kernel)
  have F1002 := hI_r I c1001 (f := 2) (q := 16) (by decide +kernel)
  refine w_get f158_21 c1001 F1002 ?_
  obtain ⟨fs1003, c1003⟩ := hI_o I (r := 16) (ci := 2) (by decide +kernel)
  have F1004 := hI_r I c1003 (f := 9) (q := 22) (by decide +kernel)
  refine w_get f158_24 c1003 F1004 ?_
  refine wp1 (fun n d => r_iloadn f158_27 rfl) ?_
  refine w_iald f158_28 c (by omega) (by omega) (fun v28 hv28 => ?_)
  refine wp1 (fun n d => r_istoren (L' := [some (.ref 0), some (.int x), some (.int y), some (.int v28)]) f158_29 rfl rfl) ?_
  refine wp1 (fun n d => r_aloadn f158_30 rfl) ?_
  refine w_get f158_31 c1001 F1002 ?_
  refine w_get f158_34 c1003 F1004 ?_
  refine wp1 (fun n d => r_iloadn f158_37 rfl) ?_
  refine wp1 (fun n d => r_iloadn f158_38 rfl) ?_
  refine w_iastI f158_39 c (by omega) (by omega) I (W := [(22, 0)]) (lo := (-2147483648)) (hi := 2147483647) (by decide +kernel) (by decide) (iR y).1 (iR y).2 (fun h1005 I1005 G1005 c1005 ne1005 => ?_)
  obtain ⟨g1005, hg1005⟩ : ∃ g', g' = upd g x.toInt.toNat y := ⟨_, rfl⟩
  rw [← hg1005] at c1005
  have c1006 := (ne1005 0 (by decide)).trans c1001
  have c1007 := (ne1005 16 (by decide)).trans c1003
  refine wp1 (fun n d => r_iloadn f158_40 rfl) ?_
  exact wp_end (fun n d => r_ireturn f158_41 rfl) ⟨I1005, G1005, _, _, rfl, c1005, Or.inl ⟨⟨by omega, by omega, by omega, by omega⟩, hv28, hg1005⟩⟩
theorem cell_231 {X : aX} {σ : List Nat} {h : aH} {x y : Int32} {g : Nat → Int32} (I : dI σ h) (c : h.1[91]? = some (.inl (0, 4, .inl g))) : Wp X 2 zM231 (fun v h' => dI σ h' ∧ dG [(91, 0)] σ h σ h' ∧ ∃ (r : Int32) (g' : Nat → Int32), v = some (.int r) ∧ h'.1[91]? = some (.inl (0, 4, .inl g')) ∧ clf 4 364 x y g r g') 0 [some (.ref 72), some (.int x), some (.int y), none] [] h := by
  have kb : ¬ (0 ≤ x.toInt ∧ x.toInt < ((4 : Nat) : Int) ∧ 0 ≤ y.toInt ∧ y.toInt ≤ ((364 : Nat) : Int)) → Wp X 2 zM231 (fun v h' => dI σ h' ∧ dG [(91, 0)] σ h σ h' ∧ ∃ (r : Int32) (g' : Nat → Int32), v = some (.int r) ∧ h'.1[91]? = some (.inl (0, 4, .inl g')) ∧ clf 4 364 x y g r g') 18 [some (.ref 72), some (.int x), some (.int y), none] [] h := fun q => w_iconst f231_18 (fun v hv => wp_end (fun n d => r_ireturn f231_19 rfl) ⟨I, dG_refl _ _ _, v, g, rfl, c, Or.inr ⟨q, hv, rfl⟩⟩)
  refine wp1 (fun n d => r_iloadn f231_0 rfl) ?_
  refine wp_in (lv := 1) (Y := zM206) (rng_206) (fun n d v h' e => r_stat (as := [.int x]) (r := []) f231_1 rfl (show zmt[206]? = some zM206 from rfl) rfl rfl rfl rfl rfl rfl e) (by first | decide | omega) ?_
  rintro v h' ⟨rfl, v1, rfl, z1, hr1⟩
  show Wp _ _ _ _ 4 [some (.ref 72), some (.int x), some (.int y), none] [.int v1] _
  refine w_if_eq f231_4 (fun q => kb (by omega)) (fun q1 => ?_)
  refine wp1 (fun n d => r_iloadn f231_7 rfl) ?_
  refine w_iconst f231_8 (fun v8 hv8 => ?_)
  refine w_sipush f231_9 (fun v9 hv9 => ?_)
  refine wp_in (lv := 0) (Y := zM196) (inx_wp) (fun n d v h' e => r_stat (as := [.int y, .int v8, .int v9]) (r := []) f231_12 rfl (show zmt[196]? = some zM196 from rfl) rfl rfl rfl rfl rfl rfl e) (by first | decide | omega) ?_
  rintro v h' ⟨rfl, v12, rfl, z2, hr2⟩
  show Wp _ _ _ _ 15 [some (.ref 72), some (.int x), some (.int y), none] [.int v12] _
  refine w_if_ne f231_15 (fun q2 => ?_) (fun q => kb (by omega))
  have w1 := hr1.mp (by omega)
  have w2 := hr2.mp (by omega)
  refine wp1 (fun n d => r_aloadn f231_20 rfl) ?_
  obtain ⟨fs1001, c1001⟩ := hI_o I (r := 72) (ci := 12) (by decide +kernel)
  have F1002 := hI_r I c1001 (f := 24) (q := 91) (by decide +kernel)
  refine w_get f231_21 c1001 F1002 ?_
  refine wp1 (fun n d => r_iloadn f231_24 rfl) ?_
  refine w_iald f231_25 c (by omega) (by omega) (fun v25 hv25 => ?_)
  refine wp1 (fun n d => r_istoren (L' := [some (.ref 72), some (.int x), some (.int y), some (.int v25)]) f231_26 rfl rfl) ?_
  refine wp1 (fun n d => r_aloadn f231_27 rfl) ?_
  refine w_get f231_28 c1001 F1002 ?_
  refine wp1 (fun n d => r_iloadn f231_31 rfl) ?_
  refine wp1 (fun n d => r_iloadn f231_32 rfl) ?_
  refine w_iastI f231_33 c (by omega) (by omega) I (W := [(91, 0)]) (lo := (-2147483648)) (hi := 2147483647) (by decide +kernel) (by decide) (iR y).1 (iR y).2 (fun h1003 I1003 G1003 c1003 ne1003 => ?_)
  obtain ⟨g1003, hg1003⟩ : ∃ g', g' = upd g x.toInt.toNat y := ⟨_, rfl⟩
  rw [← hg1003] at c1003
  have c1004 := (ne1003 72 (by decide)).trans c1001
  refine wp1 (fun n d => r_iloadn f231_34 rfl) ?_
  exact wp_end (fun n d => r_ireturn f231_35 rfl) ⟨I1003, G1003, _, _, rfl, c1003, Or.inl ⟨⟨by omega, by omega, by omega, by omega⟩, hv25, hg1003⟩⟩
theorem cell_182 {X : aX} {σ : List Nat} {h : aH} {x y : Int32} {g : Nat → Int32} (I : dI σ h) (c : h.1[57]? = some (.inl (0, 8, .inl g))) : Wp X 2 zM182 (fun v h' => dI σ h' ∧ dG [(57, 0)] σ h σ h' ∧ ∃ (r : Int32) (g' : Nat → Int32), v = some (.int r) ∧ h'.1[57]? = some (.inl (0, 8, .inl g')) ∧ clf 8 99 x y g r g') 0 [some (.ref 0), some (.int x), some (.int y), none] [] h := by
  have kb : ¬ (0 ≤ x.toInt ∧ x.toInt < ((8 : Nat) : Int) ∧ 0 ≤ y.toInt ∧ y.toInt ≤ ((99 : Nat) : Int)) → Wp X 2 zM182 (fun v h' => dI σ h' ∧ dG [(57, 0)] σ h σ h' ∧ ∃ (r : Int32) (g' : Nat → Int32), v = some (.int r) ∧ h'.1[57]? = some (.inl (0, 8, .inl g')) ∧ clf 8 99 x y g r g') 17 [some (.ref 0), some (.int x), some (.int y), none] [] h := fun q => w_iconst f182_17 (fun v hv => wp_end (fun n d => r_ireturn f182_18 rfl) ⟨I, dG_refl _ _ _, v, g, rfl, c, Or.inr ⟨q, hv, rfl⟩⟩)
  refine wp1 (fun n d => r_iloadn f182_0 rfl) ?_
  refine wp_in (lv := 1) (Y := zM141) (rng_141) (fun n d v h' e => r_stat (as := [.int x]) (r := []) f182_1 rfl (show zmt[141]? = some zM141 from rfl) rfl rfl rfl rfl rfl rfl e) (by first | decide | omega) ?_
  rintro v h' ⟨rfl, v1, rfl, z1, hr1⟩
  show Wp _ _ _ _ 4 [some (.ref 0), some (.int x), some (.int y), none] [.int v1] _
  refine w_if_eq f182_4 (fun q => kb (by omega)) (fun q1 => ?_)
  refine wp1 (fun n d => r_iloadn f182_7 rfl) ?_
  refine w_iconst f182_8 (fun v8 hv8 => ?_)
  refine w_bipush f182_9 (fun v9 hv9 => ?_)
  refine wp_in (lv := 0) (Y := zM137) (within_wp) (fun n d v h' e => r_stat (as := [.int y, .int v8, .int v9]) (r := []) f182_11 rfl (show zmt[137]? = some zM137 from rfl) rfl rfl rfl rfl rfl rfl e) (by first | decide | omega) ?_
  rintro v h' ⟨rfl, v11, rfl, z2, hr2⟩
  show Wp _ _ _ _ 14 [some (.ref 0), some (.int x), some (.int y), none] [.int v11] _
  refine w_if_ne f182_14 (fun q2 => ?_) (fun q => kb (by omega))
  have w1 := hr1.mp (by omega)
  have w2 := hr2.mp (by omega)
  refine wp1 (fun n d => r_aloadn f182_19 rfl) ?_
  obtain ⟨fs1001, c1001⟩ := hI_o I (r := 0) (ci := 11) (by decide +kernel)
  have F1002 := hI_r I c1001 (f := 6) (q := 55) (by decide +kernel)
  refine w_get f182_20 c1001 F1002 ?_
  obtain ⟨fs1003, c1003⟩ := hI_o I (r := 55) (ci := 4) (by decide +kernel)
  have F1004 := hI_r I c1003 (f := 2) (q := 57) (by decide +kernel)
  refine w_get f182_23 c1003 F1004 ?_
  refine wp1 (fun n d => r_iloadn f182_26 rfl) ?_
  refine w_iald f182_27 c (by omega) (by omega) (fun v27 hv27 => ?_)
  refine wp1 (fun n d => r_istoren (L' := [some (.ref 0), some (.int x), some (.int y), some (.int v27)]) f182_28 rfl rfl) ?_
  refine wp1 (fun n d => r_aloadn f182_29 rfl) ?_
  refine w_get f182_30 c1001 F1002 ?_
  refine w_get f182_33 c1003 F1004 ?_
  refine wp1 (fun n d => r_iloadn f182_36 rfl) ?_
  refine wp1 (fun n d => r_iloadn f182_37 rfl) ?_
  refine w_iastI f182_38 c (by omega) (by omega) I (W := [(57, 0)]) (lo := (-2147483648)) (hi := 2147483647) (by decide +kernel) (by decide) (iR y).1 (iR y).2 (fun h1005 I1005 G1005 c1005 ne1005 => ?_)
  obtain ⟨g1005, hg1005⟩ : ∃ g', g' = upd g x.toInt.toNat y := ⟨_, rfl⟩
  rw [← hg1005] at c1005
  have c1006 := (ne1005 0 (by decide)).trans c1001
  have c1007 := (ne1005 55 (by decide)).trans c1003
  refine wp1 (fun n d => r_iloadn f182_39 rfl) ?_
  exact wp_end (fun n d => r_ireturn f182_40 rfl) ⟨I1005, G1005, _, _, rfl, c1005, Or.inl ⟨⟨by omega, by omega, by omega, by omega⟩, hv27, hg1005⟩⟩
theorem cell_300 {X : aX} {σ : List Nat} {h : aH} {x y : Int32} {g : Nat → Int32} (I : dI σ h) (c : h.1[137]? = some (.inl (0, 8, .inl g))) : Wp X 1 zM300 (fun v h' => dI σ h' ∧ dG [(137, 0)] σ h σ h' ∧ ∃ (r : Int32) (g' : Nat → Int32), v = some (.int r) ∧ h'.1[137]? = some (.inl (0, 8, .inl g')) ∧ clf 8 99 x y g r g') 0 [some (.ref 72), some (.int x), some (.int y), none] [] h := by
  have kb : ¬ (0 ≤ x.toInt ∧ x.toInt < ((8 : Nat) : Int) ∧ 0 ≤ y.toInt ∧ y.toInt ≤ ((99 : Nat) : Int)) → Wp X 1 zM300 (fun v h' => dI σ h' ∧ dG [(137, 0)] σ h σ h' ∧ ∃ (r : Int32) (g' : Nat → Int32), v = some (.int r) ∧ h'.1[137]? = some (.inl (0, 8, .inl g')) ∧ clf 8 99 x y g r g') 20 [some (.ref 72), some (.int x), some (.int y), none] [] h := fun q => w_iconst f300_20 (fun v hv => wp_end (fun n d => r_ireturn f300_21 rfl) ⟨I, dG_refl _ _ _, v, g, rfl, c, Or.inr ⟨q, hv, rfl⟩⟩)
  refine wp1 (fun n d => r_iloadn f300_0 rfl) ?_
  refine w_iconst f300_1 (fun v1 hv1 => ?_)
  refine w_bipush f300_2 (fun v2 hv2 => ?_)
  refine wp_in (lv := 0) (Y := zM196) (inx_wp) (fun n d v h' e => r_stat (as := [.int x, .int v1, .int v2]) (r := []) f300_4 rfl (show zmt[196]? = some zM196 from rfl) rfl rfl rfl rfl rfl rfl e) (by first | decide | omega) ?_
  rintro v h' ⟨rfl, v4, rfl, z1, hr1⟩
  show Wp _ _ _ _ 7 [some (.ref 72), some (.int x), some (.int y), none] [.int v4] _
  refine w_if_eq f300_7 (fun q => kb (by omega)) (fun q1 => ?_)
  refine wp1 (fun n d => r_iloadn f300_10 rfl) ?_
  refine w_iconst f300_11 (fun v11 hv11 => ?_)
  refine w_bipush f300_12 (fun v12 hv12 => ?_)
  refine wp_in (lv := 0) (Y := zM196) (inx_wp) (fun n d v h' e => r_stat (as := [.int y, .int v11, .int v12]) (r := []) f300_14 rfl (show zmt[196]? = some zM196 from rfl) rfl rfl rfl rfl rfl rfl e) (by first | decide | omega) ?_
  rintro v h' ⟨rfl, v14, rfl, z2, hr2⟩
  show Wp _ _ _ _ 17 [some (.ref 72), some (.int x), some (.int y), none] [.int v14] _
  refine w_if_ne f300_17 (fun q2 => ?_) (fun q => kb (by omega))
  have w1 := hr1.mp (by omega)
  have w2 := hr2.mp (by omega)
  refine wp1 (fun n d => r_aloadn f300_22 rfl) ?_
  obtain ⟨fs1001, c1001⟩ := hI_o I (r := 72) (ci := 12) (by decide +kernel)
  have F1002 := hI_r I c1001 (f := 89) (q := 137) (by decide +kernel)
  refine w_get f300_23 c1001 F1002 ?_
  refine wp1 (fun n d => r_iloadn f300_26 rfl) ?_
  refine w_iald f300_27 c (by omega) (by omega) (fun v27 hv27 => ?_)
  refine wp1 (fun n d => r_istoren (L' := [some (.ref 72), some (.int x), some (.int y), some (.int v27)]) f300_28 rfl rfl) ?_
  refine wp1 (fun n d => r_aloadn f300_29 rfl) ?_
  refine w_get f300_30 c1001 F1002 ?_
  refine wp1 (fun n d => r_iloadn f300_33 rfl) ?_
  refine wp1 (fun n d => r_iloadn f300_34 rfl) ?_
  refine w_iastI f300_35 c (by omega) (by omega) I (W := [(137, 0)]) (lo := (-2147483648)) (hi := 2147483647) (by decide +kernel) (by decide) (iR y).1 (iR y).2 (fun h1003 I1003 G1003 c1003 ne1003 => ?_)
  obtain ⟨g1003, hg1003⟩ : ∃ g', g' = upd g x.toInt.toNat y := ⟨_, rfl⟩
  rw [← hg1003] at c1003
  have c1004 := (ne1003 72 (by decide)).trans c1001
  refine wp1 (fun n d => r_iloadn f300_36 rfl) ?_
  exact wp_end (fun n d => r_ireturn f300_37 rfl) ⟨I1003, G1003, _, _, rfl, c1003, Or.inl ⟨⟨by omega, by omega, by omega, by omega⟩, hv27, hg1003⟩⟩
end
section
-- ===== plot and colour on both sides =====
theorem f40_0 : aF 0 zM40.2.2.2.2.2.2.2 = some (0, (.iload_n 1), 1, 0, 0) := by decide +kernel
theorem f40_1 : aF 1 zM40.2.2.2.2.2.2.2 = some (1, (.bipush 6), 2, 0, 0) := by decide +kernel
theorem f40_3 : aF 3 zM40.2.2.2.2.2.2.2 = some (3, .imul, 1, 0, 0) := by decide +kernel
theorem f40_4 : aF 4 zM40.2.2.2.2.2.2.2 = some (4, (.iload_n 2), 1, 0, 0) := by decide +kernel
theorem f40_5 : aF 5 zM40.2.2.2.2.2.2.2 = some (5, .iadd, 1, 0, 0) := by decide +kernel
theorem f40_6 : aF 6 zM40.2.2.2.2.2.2.2 = some (6, (.istore 4), 2, 0, 0) := by decide +kernel
theorem f40_8 : aF 8 zM40.2.2.2.2.2.2.2 = some (8, (.aload_n 0), 1, 0, 0) := by decide +kernel
theorem f40_9 : aF 9 zM40.2.2.2.2.2.2.2 = some (9, (.getfield 9), 3, 3, 0) := by decide +kernel
theorem f40_12 : aF 12 zM40.2.2.2.2.2.2.2 = some (12, (.iload 4), 2, 0, 0) := by decide +kernel
theorem f40_14 : aF 14 zM40.2.2.2.2.2.2.2 = some (14, .iaload, 1, 0, 0) := by decide +kernel
theorem f40_15 : aF 15 zM40.2.2.2.2.2.2.2 = some (15, (.istore 5), 2, 0, 0) := by decide +kernel
theorem f40_17 : aF 17 zM40.2.2.2.2.2.2.2 = some (17, (.aload_n 0), 1, 0, 0) := by decide +kernel
theorem f40_18 : aF 18 zM40.2.2.2.2.2.2.2 = some (18, (.getfield 9), 3, 3, 0) := by decide +kernel
theorem f40_21 : aF 21 zM40.2.2.2.2.2.2.2 = some (21, (.iload 4), 2, 0, 0) := by decide +kernel
theorem f40_23 : aF 23 zM40.2.2.2.2.2.2.2 = some (23, (.iload_n 3), 1, 0, 0) := by decide +kernel
theorem f40_24 : aF 24 zM40.2.2.2.2.2.2.2 = some (24, .iastore, 1, 0, 0) := by decide +kernel
theorem f40_25 : aF 25 zM40.2.2.2.2.2.2.2 = some (25, (.iload 5), 2, 0, 0) := by decide +kernel
theorem f40_27 : aF 27 zM40.2.2.2.2.2.2.2 = some (27, .ireturn, 1, 0, 0) := by decide +kernel
theorem f163_0 : aF 0 zM163.2.2.2.2.2.2.2 = some (0, (.iload_n 1), 1, 0, 0) := by decide +kernel
theorem f163_1 : aF 1 zM163.2.2.2.2.2.2.2 = some (1, (.invokestatic 173), 3, 141, 0) := by decide +kernel
theorem f163_4 : aF 4 zM163.2.2.2.2.2.2.2 = some (4, (.ifCond .eq 22), 3, 26, 0) := by decide +kernel
theorem f163_7 : aF 7 zM163.2.2.2.2.2.2.2 = some (7, (.iload_n 2), 1, 0, 0) := by decide +kernel
theorem f163_8 : aF 8 zM163.2.2.2.2.2.2.2 = some (8, (.iconst 0), 1, 0, 0) := by decide +kernel
theorem f163_9 : aF 9 zM163.2.2.2.2.2.2.2 = some (9, (.iconst 5), 1, 0, 0) := by decide +kernel
theorem f163_10 : aF 10 zM163.2.2.2.2.2.2.2 = some (10, (.invokestatic 85), 3, 137, 0) := by decide +kernel
theorem f163_13 : aF 13 zM163.2.2.2.2.2.2.2 = some (13, (.ifCond .eq 13), 3, 26, 0) := by decide +kernel
theorem f163_16 : aF 16 zM163.2.2.2.2.2.2.2 = some (16, (.iload_n 3), 1, 0, 0) := by decide +kernel
theorem f163_17 : aF 17 zM163.2.2.2.2.2.2.2 = some (17, (.iconst 0), 1, 0, 0) := by decide +kernel
theorem f163_18 : aF 18 zM163.2.2.2.2.2.2.2 = some (18, (.bipush 99), 2, 0, 0) := by decide +kernel
theorem f163_20 : aF 20 zM163.2.2.2.2.2.2.2 = some (20, (.invokestatic 85), 3, 137, 0) := by decide +kernel
theorem f163_23 : aF 23 zM163.2.2.2.2.2.2.2 = some (23, (.ifCond .ne 5), 3, 28, 0) := by decide +kernel
theorem f163_26 : aF 26 zM163.2.2.2.2.2.2.2 = some (26, (.iconst (-1)), 1, 0, 0) := by decide +kernel
theorem f163_27 : aF 27 zM163.2.2.2.2.2.2.2 = some (27, .ireturn, 1, 0, 0) := by decide +kernel
theorem f163_28 : aF 28 zM163.2.2.2.2.2.2.2 = some (28, (.aload_n 0), 1, 0, 0) := by decide +kernel
theorem f163_29 : aF 29 zM163.2.2.2.2.2.2.2 = some (29, (.getfield 67), 3, 11, 7) := by decide +kernel
theorem f163_32 : aF 32 zM163.2.2.2.2.2.2.2 = some (32, (.iload_n 1), 1, 0, 0) := by decide +kernel
theorem f163_33 : aF 33 zM163.2.2.2.2.2.2.2 = some (33, (.iload_n 2), 1, 0, 0) := by decide +kernel
theorem f163_34 : aF 34 zM163.2.2.2.2.2.2.2 = some (34, (.iload_n 3), 1, 0, 0) := by decide +kernel
theorem f163_35 : aF 35 zM163.2.2.2.2.2.2.2 = some (35, (.invokevirtual 232), 3, 40, 0) := by decide +kernel
theorem f163_38 : aF 38 zM163.2.2.2.2.2.2.2 = some (38, .ireturn, 1, 0, 0) := by decide +kernel
theorem f245_0 : aF 0 zM245.2.2.2.2.2.2.2 = some (0, (.iload_n 1), 1, 0, 0) := by decide +kernel
theorem f245_1 : aF 1 zM245.2.2.2.2.2.2.2 = some (1, (.iconst 0), 1, 0, 0) := by decide +kernel
theorem f245_2 : aF 2 zM245.2.2.2.2.2.2.2 = some (2, (.bipush 7), 2, 0, 0) := by decide +kernel
theorem f245_4 : aF 4 zM245.2.2.2.2.2.2.2 = some (4, (.invokestatic 258), 3, 196, 0) := by decide +kernel
theorem f245_7 : aF 7 zM245.2.2.2.2.2.2.2 = some (7, (.ifCond .eq 22), 3, 29, 0) := by decide +kernel
theorem f245_10 : aF 10 zM245.2.2.2.2.2.2.2 = some (10, (.iload_n 2), 1, 0, 0) := by decide +kernel
theorem f245_11 : aF 11 zM245.2.2.2.2.2.2.2 = some (11, (.iconst 0), 1, 0, 0) := by decide +kernel
theorem f245_12 : aF 12 zM245.2.2.2.2.2.2.2 = some (12, (.iconst 5), 1, 0, 0) := by decide +kernel
theorem f245_13 : aF 13 zM245.2.2.2.2.2.2.2 = some (13, (.invokestatic 258), 3, 196, 0) := by decide +kernel
theorem f245_16 : aF 16 zM245.2.2.2.2.2.2.2 = some (16, (.ifCond .eq 13), 3, 29, 0) := by decide +kernel
theorem f245_19 : aF 19 zM245.2.2.2.2.2.2.2 = some (19, (.iload_n 3), 1, 0, 0) := by decide +kernel
theorem f245_20 : aF 20 zM245.2.2.2.2.2.2.2 = some (20, (.iconst 0), 1, 0, 0) := by decide +kernel
theorem f245_21 : aF 21 zM245.2.2.2.2.2.2.2 = some (21, (.bipush 99), 2, 0, 0) := by decide +kernel
theorem f245_23 : aF 23 zM245.2.2.2.2.2.2.2 = some (23, (.invokestatic 258), 3, 196, 0) := by decide +kernel
theorem f245_26 : aF 26 zM245.2.2.2.2.2.2.2 = some (26, (.ifCond .ne 5), 3, 31, 0) := by decide +kernel
theorem f245_29 : aF 29 zM245.2.2.2.2.2.2.2 = some (29, (.iconst (-1)), 1, 0, 0) := by decide +kernel
theorem f245_30 : aF 30 zM245.2.2.2.2.2.2.2 = some (30, .ireturn, 1, 0, 0) := by decide +kernel
theorem f245_31 : aF 31 zM245.2.2.2.2.2.2.2 = some (31, (.aload_n 0), 1, 0, 0) := by decide +kernel
theorem f245_32 : aF 32 zM245.2.2.2.2.2.2.2 = some (32, (.getfield 136), 3, 12, 49) := by decide +kernel
theorem f245_35 : aF 35 zM245.2.2.2.2.2.2.2 = some (35, (.bipush 6), 2, 0, 0) := by decide +kernel
theorem f245_37 : aF 37 zM245.2.2.2.2.2.2.2 = some (37, (.iload_n 1), 1, 0, 0) := by decide +kernel
theorem f245_38 : aF 38 zM245.2.2.2.2.2.2.2 = some (38, .imul, 1, 0, 0) := by decide +kernel
theorem f245_39 : aF 39 zM245.2.2.2.2.2.2.2 = some (39, (.iload_n 2), 1, 0, 0) := by decide +kernel
theorem f245_40 : aF 40 zM245.2.2.2.2.2.2.2 = some (40, .iadd, 1, 0, 0) := by decide +kernel
theorem f245_41 : aF 41 zM245.2.2.2.2.2.2.2 = some (41, .iaload, 1, 0, 0) := by decide +kernel
theorem f245_42 : aF 42 zM245.2.2.2.2.2.2.2 = some (42, (.istore 4), 2, 0, 0) := by decide +kernel
theorem f245_44 : aF 44 zM245.2.2.2.2.2.2.2 = some (44, (.aload_n 0), 1, 0, 0) := by decide +kernel
theorem f245_45 : aF 45 zM245.2.2.2.2.2.2.2 = some (45, (.getfield 136), 3, 12, 49) := by decide +kernel
theorem f245_48 : aF 48 zM245.2.2.2.2.2.2.2 = some (48, (.bipush 6), 2, 0, 0) := by decide +kernel
theorem f245_50 : aF 50 zM245.2.2.2.2.2.2.2 = some (50, (.iload_n 1), 1, 0, 0) := by decide +kernel
theorem f245_51 : aF 51 zM245.2.2.2.2.2.2.2 = some (51, .imul, 1, 0, 0) := by decide +kernel
theorem f245_52 : aF 52 zM245.2.2.2.2.2.2.2 = some (52, (.iload_n 2), 1, 0, 0) := by decide +kernel
theorem f245_53 : aF 53 zM245.2.2.2.2.2.2.2 = some (53, .iadd, 1, 0, 0) := by decide +kernel
theorem f245_54 : aF 54 zM245.2.2.2.2.2.2.2 = some (54, (.iload_n 3), 1, 0, 0) := by decide +kernel
theorem f245_55 : aF 55 zM245.2.2.2.2.2.2.2 = some (55, .iastore, 1, 0, 0) := by decide +kernel
theorem f245_56 : aF 56 zM245.2.2.2.2.2.2.2 = some (56, (.iload 4), 2, 0, 0) := by decide +kernel
theorem f245_58 : aF 58 zM245.2.2.2.2.2.2.2 = some (58, .ireturn, 1, 0, 0) := by decide +kernel
def clc (x y z : Int32) (g : Nat → Int32) (r : Int32) (g' : Nat → Int32) : Prop := ((0 ≤ x.toInt ∧ x.toInt ≤ 7 ∧ 0 ≤ y.toInt ∧ y.toInt ≤ 5 ∧ 0 ≤ z.toInt ∧ z.toInt ≤ 99) ∧ r = g (6 * x.toInt + y.toInt).toNat ∧ g' = upd g (6 * x.toInt + y.toInt).toNat z) ∨ (¬ (0 ≤ x.toInt ∧ x.toInt ≤ 7 ∧ 0 ≤ y.toInt ∧ y.toInt ≤ 5 ∧ 0 ≤ z.toInt ∧ z.toInt ≤ 99) ∧ r.toInt = -1 ∧ g' = g)
theorem clc_eq {x y z r1 r2 : Int32} {g1 g1' g2 g2' : Nat → Int32} (h1 : clc x y z g1 r1 g1') (h2 : clc x y z g2 r2 g2') (e : ∀ j, j < 48 → g1 j = g2 j) : r1.toInt = r2.toInt ∧ ∀ j, j < 48 → g1' j = g2' j := by
  unfold clc at h1 h2
  rcases h1 with ⟨a, b, c⟩ | ⟨a, b, c⟩ <;> rcases h2 with ⟨a', b', c'⟩ | ⟨a', b', c'⟩
  · subst b b' c c'
    refine ⟨by rw [e _ (by omega)], fun j hj => ?_⟩
    unfold upd
    rw [e j hj]
  · exact absurd a a'
  · exact absurd a' a
  · subst c c'
    exact ⟨by omega, e⟩
theorem paint_40 {X : aX} {σ : List Nat} {h : aH} {x y z : Int32} {g : Nat → Int32} (I : dI σ h) (c : h.1[64]? = some (.inl (0, 48, .inl g))) (x0 : 0 ≤ x.toInt) (x7 : x.toInt ≤ 7) (y0 : 0 ≤ y.toInt) (y5 : y.toInt ≤ 5) : Wp X 0 zM40 (fun v h' => dI σ h' ∧ dG [(64, 0)] σ h σ h' ∧ ∃ (r : Int32) (g' : Nat → Int32), v = some (.int r) ∧ h'.1[64]? = some (.inl (0, 48, .inl g')) ∧ r = g (6 * x.toInt + y.toInt).toNat ∧ g' = upd g (6 * x.toInt + y.toInt).toNat z) 0 [some (.ref 63), some (.int x), some (.int y), some (.int z), none, none] [] h := by
  refine wp1 (fun n d => r_iloadn f40_0 rfl) ?_
  refine w_bipush f40_1 (fun v1 hv1 => ?_)
  refine w_imul f40_3 (by rw [hv1]; omega) (by rw [hv1]; omega) (fun v3 hv3 => ?_)
  rw [hv1] at hv3
  refine wp1 (fun n d => r_iloadn f40_4 rfl) ?_
  refine w_iadd f40_5 (by omega) (by omega) (fun v5 hv5 => ?_)
  refine wp1 (fun n d => r_istore (L' := [some (.ref 63), some (.int x), some (.int y), some (.int z), some (.int v5), none]) f40_6 rfl rfl) ?_
  refine wp1 (fun n d => r_aloadn f40_8 rfl) ?_
  obtain ⟨fs1001, c1001⟩ := hI_o I (r := 63) (ci := 3) (by decide +kernel)
  have F1002 := hI_r I c1001 (f := 0) (q := 64) (by decide +kernel)
  refine w_get f40_9 c1001 F1002 ?_
  refine wp1 (fun n d => r_iload f40_12 rfl) ?_
  refine w_iald f40_14 c (by omega) (by omega) (fun v14 hv14 => ?_)
  refine wp1 (fun n d => r_istore (L' := [some (.ref 63), some (.int x), some (.int y), some (.int z), some (.int v5), some (.int v14)]) f40_15 rfl rfl) ?_
  refine wp1 (fun n d => r_aloadn f40_17 rfl) ?_
  refine w_get f40_18 c1001 F1002 ?_
  refine wp1 (fun n d => r_iload f40_21 rfl) ?_
  refine wp1 (fun n d => r_iloadn f40_23 rfl) ?_
  refine w_iastI f40_24 c (by omega) (by omega) I (W := [(64, 0)]) (lo := (-2147483648)) (hi := 2147483647) (by decide +kernel) (by decide) (iR z).1 (iR z).2 (fun h1003 I1003 G1003 c1003 ne1003 => ?_)
  obtain ⟨g1003, hg1003⟩ : ∃ g', g' = upd g v5.toInt.toNat z := ⟨_, rfl⟩
  rw [← hg1003] at c1003
  have c1004 := (ne1003 63 (by decide)).trans c1001
  refine wp1 (fun n d => r_iload f40_25 rfl) ?_
  have ei : v5.toInt = 6 * x.toInt + y.toInt := by omega
  exact wp_end (fun n d => r_ireturn f40_27 rfl) ⟨I1003, G1003, _, _, rfl, c1003, by rw [hv14, ei], by rw [hg1003, ei]⟩
theorem colour_163 {X : aX} {σ : List Nat} {h : aH} {x y z : Int32} {g : Nat → Int32} (I : dI σ h) (c : h.1[64]? = some (.inl (0, 48, .inl g))) : Wp X 2 zM163 (fun v h' => dI σ h' ∧ dG [(64, 0)] σ h σ h' ∧ ∃ (r : Int32) (g' : Nat → Int32), v = some (.int r) ∧ h'.1[64]? = some (.inl (0, 48, .inl g')) ∧ clc x y z g r g') 0 [some (.ref 0), some (.int x), some (.int y), some (.int z)] [] h := by
  have kb : ¬ (0 ≤ x.toInt ∧ x.toInt ≤ 7 ∧ 0 ≤ y.toInt ∧ y.toInt ≤ 5 ∧ 0 ≤ z.toInt ∧ z.toInt ≤ 99) → Wp X 2 zM163 (fun v h' => dI σ h' ∧ dG [(64, 0)] σ h σ h' ∧ ∃ (r : Int32) (g' : Nat → Int32), v = some (.int r) ∧ h'.1[64]? = some (.inl (0, 48, .inl g')) ∧ clc x y z g r g') 26 [some (.ref 0), some (.int x), some (.int y), some (.int z)] [] h := fun q => w_iconst f163_26 (fun v hv => wp_end (fun n d => r_ireturn f163_27 rfl) ⟨I, dG_refl _ _ _, v, g, rfl, c, Or.inr ⟨q, hv, rfl⟩⟩)
  refine wp1 (fun n d => r_iloadn f163_0 rfl) ?_
  refine wp_in (lv := 1) (Y := zM141) (rng_141) (fun n d v h' e => r_stat (as := [.int x]) (r := []) f163_1 rfl (show zmt[141]? = some zM141 from rfl) rfl rfl rfl rfl rfl rfl e) (by first | decide | omega) ?_
  rintro v h' ⟨rfl, v1, rfl, z1, hr1⟩
  show Wp _ _ _ _ 4 [some (.ref 0), some (.int x), some (.int y), some (.int z)] [.int v1] _
  refine w_if_eq f163_4 (fun q => kb (by omega)) (fun q1 => ?_)
  refine wp1 (fun n d => r_iloadn f163_7 rfl) ?_
  refine w_iconst f163_8 (fun v8 hv8 => ?_)
  refine w_iconst f163_9 (fun v9 hv9 => ?_)
  refine wp_in (lv := 0) (Y := zM137) (within_wp) (fun n d v h' e => r_stat (as := [.int y, .int v8, .int v9]) (r := []) f163_10 rfl (show zmt[137]? = some zM137 from rfl) rfl rfl rfl rfl rfl rfl e) (by first | decide | omega) ?_
  rintro v h' ⟨rfl, v10, rfl, z2, hr2⟩
  show Wp _ _ _ _ 13 [some (.ref 0), some (.int x), some (.int y), some (.int z)] [.int v10] _
  refine w_if_eq f163_13 (fun q => kb (by omega)) (fun q2 => ?_)
  refine wp1 (fun n d => r_iloadn f163_16 rfl) ?_
  refine w_iconst f163_17 (fun v17 hv17 => ?_)
  refine w_bipush f163_18 (fun v18 hv18 => ?_)
  refine wp_in (lv := 0) (Y := zM137) (within_wp) (fun n d v h' e => r_stat (as := [.int z, .int v17, .int v18]) (r := []) f163_20 rfl (show zmt[137]? = some zM137 from rfl) rfl rfl rfl rfl rfl rfl e) (by first | decide | omega) ?_
  rintro v h' ⟨rfl, v20, rfl, z3, hr3⟩
  show Wp _ _ _ _ 23 [some (.ref 0), some (.int x), some (.int y), some (.int z)] [.int v20] _
  refine w_if_ne f163_23 (fun q3 => ?_) (fun q => kb (by omega))
  have w1 := hr1.mp (by omega)
  have w2 := hr2.mp (by omega)
  have w3 := hr3.mp (by omega)
  refine wp1 (fun n d => r_aloadn f163_28 rfl) ?_
  obtain ⟨fs1001, c1001⟩ := hI_o I (r := 0) (ci := 11) (by decide +kernel)
  have F1002 := hI_r I c1001 (f := 7) (q := 63) (by decide +kernel)
  refine w_get f163_29 c1001 F1002 ?_
  refine wp1 (fun n d => r_iloadn f163_32 rfl) ?_
  refine wp1 (fun n d => r_iloadn f163_33 rfl) ?_
  refine wp1 (fun n d => r_iloadn f163_34 rfl) ?_
  obtain ⟨fs1003, c1003⟩ := hI_o I (r := 63) (ci := 3) (by decide +kernel)
  refine wp_in (lv := 0) (Y := zM40) (paint_40 (x := x) (y := y) (z := z) I c (by omega) (by omega) (by omega) (by omega)) (fun n d v h' e => r_virt (as := [.int x, .int y, .int z]) (r := []) f163_35 c1003 (show zmt[40]? = some zM40 from rfl) rfl rfl rfl rfl rfl rfl e) (by decide) ?_
  rintro v' h1 ⟨I1, G1, r, g1, rfl, d1, b1, b2⟩
  exact wp_end (fun n d => r_ireturn f163_38 rfl) ⟨I1, G1, r, g1, rfl, d1, Or.inl ⟨⟨by omega, by omega, by omega, by omega, by omega, by omega⟩, b1, b2⟩⟩
theorem colour_245 {X : aX} {σ : List Nat} {h : aH} {x y z : Int32} {g : Nat → Int32} (I : dI σ h) (c : h.1[112]? = some (.inl (0, 48, .inl g))) : Wp X 1 zM245 (fun v h' => dI σ h' ∧ dG [(112, 0)] σ h σ h' ∧ ∃ (r : Int32) (g' : Nat → Int32), v = some (.int r) ∧ h'.1[112]? = some (.inl (0, 48, .inl g')) ∧ clc x y z g r g') 0 [some (.ref 72), some (.int x), some (.int y), some (.int z), none] [] h := by
  have kb : ¬ (0 ≤ x.toInt ∧ x.toInt ≤ 7 ∧ 0 ≤ y.toInt ∧ y.toInt ≤ 5 ∧ 0 ≤ z.toInt ∧ z.toInt ≤ 99) → Wp X 1 zM245 (fun v h' => dI σ h' ∧ dG [(112, 0)] σ h σ h' ∧ ∃ (r : Int32) (g' : Nat → Int32), v = some (.int r) ∧ h'.1[112]? = some (.inl (0, 48, .inl g')) ∧ clc x y z g r g') 29 [some (.ref 72), some (.int x), some (.int y), some (.int z), none] [] h := fun q => w_iconst f245_29 (fun v hv => wp_end (fun n d => r_ireturn f245_30 rfl) ⟨I, dG_refl _ _ _, v, g, rfl, c, Or.inr ⟨q, hv, rfl⟩⟩)
  refine wp1 (fun n d => r_iloadn f245_0 rfl) ?_
  refine w_iconst f245_1 (fun v1 hv1 => ?_)
  refine w_bipush f245_2 (fun v2 hv2 => ?_)
  refine wp_in (lv := 0) (Y := zM196) (inx_wp) (fun n d v h' e => r_stat (as := [.int x, .int v1, .int v2]) (r := []) f245_4 rfl (show zmt[196]? = some zM196 from rfl) rfl rfl rfl rfl rfl rfl e) (by first | decide | omega) ?_
  rintro v h' ⟨rfl, v4, rfl, z1, hr1⟩
  show Wp _ _ _ _ 7 [some (.ref 72), some (.int x), some (.int y), some (.int z), none] [.int v4] _
  refine w_if_eq f245_7 (fun q => kb (by omega)) (fun q1 => ?_)
  refine wp1 (fun n d => r_iloadn f245_10 rfl) ?_
  refine w_iconst f245_11 (fun v11 hv11 => ?_)
  refine w_iconst f245_12 (fun v12 hv12 => ?_)
  refine wp_in (lv := 0) (Y := zM196) (inx_wp) (fun n d v h' e => r_stat (as := [.int y, .int v11, .int v12]) (r := []) f245_13 rfl (show zmt[196]? = some zM196 from rfl) rfl rfl rfl rfl rfl rfl e) (by first | decide | omega) ?_
  rintro v h' ⟨rfl, v13, rfl, z2, hr2⟩
  show Wp _ _ _ _ 16 [some (.ref 72), some (.int x), some (.int y), some (.int z), none] [.int v13] _
  refine w_if_eq f245_16 (fun q => kb (by omega)) (fun q2 => ?_)
  refine wp1 (fun n d => r_iloadn f245_19 rfl) ?_
  refine w_iconst f245_20 (fun v20 hv20 => ?_)
  refine w_bipush f245_21 (fun v21 hv21 => ?_)
  refine wp_in (lv := 0) (Y := zM196) (inx_wp) (fun n d v h' e => r_stat (as := [.int z, .int v20, .int v21]) (r := []) f245_23 rfl (show zmt[196]? = some zM196 from rfl) rfl rfl rfl rfl rfl rfl e) (by first | decide | omega) ?_
  rintro v h' ⟨rfl, v23, rfl, z3, hr3⟩
  show Wp _ _ _ _ 26 [some (.ref 72), some (.int x), some (.int y), some (.int z), none] [.int v23] _
  refine w_if_ne f245_26 (fun q3 => ?_) (fun q => kb (by omega))
  have w1 := hr1.mp (by omega)
  have w2 := hr2.mp (by omega)
  have w3 := hr3.mp (by omega)
  refine wp1 (fun n d => r_aloadn f245_31 rfl) ?_
  obtain ⟨fs1001, c1001⟩ := hI_o I (r := 72) (ci := 12) (by decide +kernel)
  have F1002 := hI_r I c1001 (f := 49) (q := 112) (by decide +kernel)
  refine w_get f245_32 c1001 F1002 ?_
  refine w_bipush f245_35 (fun v35 hv35 => ?_)
  refine wp1 (fun n d => r_iloadn f245_37 rfl) ?_
  refine w_imul f245_38 (by rw [hv35]; omega) (by rw [hv35]; omega) (fun v38 hv38 => ?_)
  rw [hv35] at hv38
  refine wp1 (fun n d => r_iloadn f245_39 rfl) ?_
  refine w_iadd f245_40 (by omega) (by omega) (fun v40 hv40 => ?_)
  refine w_iald f245_41 c (by omega) (by omega) (fun v41 hv41 => ?_)
  refine wp1 (fun n d => r_istore (L' := [some (.ref 72), some (.int x), some (.int y), some (.int z), some (.int v41)]) f245_42 rfl rfl) ?_
  refine wp1 (fun n d => r_aloadn f245_44 rfl) ?_
  refine w_get f245_45 c1001 F1002 ?_
  refine w_bipush f245_48 (fun v48 hv48 => ?_)
  refine wp1 (fun n d => r_iloadn f245_50 rfl) ?_
  refine w_imul f245_51 (by rw [hv48]; omega) (by rw [hv48]; omega) (fun v51 hv51 => ?_)
  rw [hv48] at hv51
  refine wp1 (fun n d => r_iloadn f245_52 rfl) ?_
  refine w_iadd f245_53 (by omega) (by omega) (fun v53 hv53 => ?_)
  refine wp1 (fun n d => r_iloadn f245_54 rfl) ?_
  refine w_iastI f245_55 c (by omega) (by omega) I (W := [(112, 0)]) (lo := (-2147483648)) (hi := 2147483647) (by decide +kernel) (by decide) (iR z).1 (iR z).2 (fun h1003 I1003 G1003 c1003 ne1003 => ?_)
  obtain ⟨g1003, hg1003⟩ : ∃ g', g' = upd g v53.toInt.toNat z := ⟨_, rfl⟩
  rw [← hg1003] at c1003
  have c1004 := (ne1003 72 (by decide)).trans c1001
  refine wp1 (fun n d => r_iload f245_56 rfl) ?_
  have ei : v40.toInt = 6 * x.toInt + y.toInt := by omega
  have ej : v53.toInt = 6 * x.toInt + y.toInt := by omega
  exact wp_end (fun n d => r_ireturn f245_58 rfl) ⟨I1003, G1003, _, _, rfl, c1003, Or.inl ⟨⟨by omega, by omega, by omega, by omega, by omega, by omega⟩, by rw [hv41, ei], by rw [hg1003, ej]⟩⟩
end
section
-- ===== the relation of the two sides =====

def JR (h : aH) : Prop := JF 63 3 1 72 12 52 h ∧ JA 22 91 4 h ∧ JA 57 137 8 h ∧ JA 64 112 48 h
def jrW (W : List (Nat × Nat)) : Bool := !(cWn W 63 1) && !(cWn W 72 52) && !(cWn W 22 0) && !(cWn W 91 0) && !(cWn W 57 0) && !(cWn W 137 0) && !(cWn W 64 0) && !(cWn W 112 0)
theorem JR_dG {σ σ' : List Nat} {h h' : aH} {W : List (Nat × Nat)} (J : JR h) (I : dI σ h) (G : dG W σ h σ' h') (k : jrW W = true) : JR h' := by
  unfold jrW at k
  simp only [Bool.and_eq_true, Bool.not_eq_true'] at k
  obtain ⟨⟨⟨⟨⟨⟨⟨k1, k2⟩, k3⟩, k4⟩, k5⟩, k6⟩, k9⟩, k10⟩ := k
  refine ⟨JF_dG J.1 I G ?_, JA_dG J.2.1 I G ?_, JA_dG J.2.2.1 I G ?_, JA_dG J.2.2.2 I G ?_⟩
  · rw [k1, k2]; decide
  · rw [k3, k4]; decide
  · rw [k5, k6]; decide
  · rw [k9, k10]; decide
def JQ (h : aH) : Prop := JP h ∧ JR h
theorem JQ_dG {σ σ' : List Nat} {h h' : aH} {W : List (Nat × Nat)} (J : JQ h) (I : dI σ h) (G : dG W σ h σ' h') (k : ((!(cWn W 1 0) && !(cWn W 1 1) && !(cWn W 1 4) && !(cWn W 72 1)) && jrW W) = true) : JQ h' :=
  ⟨JP_dG J.1 I G ((Bool.and_eq_true _ _).mp k).1, JR_dG J.2 I G ((Bool.and_eq_true _ _).mp k).2⟩
theorem zJR0 : JR zH0 := by
  refine ⟨⟨_, _, -1, zh63, rfl, zh72, rfl⟩, ⟨_, _, zh22, zh91, ?_⟩, ⟨_, _, zh57, zh137, ?_⟩, ⟨_, _, zh64, zh112, ?_⟩⟩
  · decide +kernel
  · decide +kernel
  · decide +kernel
end

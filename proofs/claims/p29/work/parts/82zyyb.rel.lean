-- ===== seasons: the relation =====
-- the reference's reckoning stands where what it was made of is as it was, for the fields that are claimed
def agN (V W : vS) : Prop := (∀ c, W 87 c = V 87 c) ∧ (∀ c, W 88 c = V 88 c) ∧ (∀ c, W 90 c = V 90 c) ∧ (W 72 19 = V 72 19 ∧ W 72 25 = V 72 25 ∧ W 72 32 = V 72 32) ∧ (∀ (c : Nat) j, 92 ≤ c → c < 103 → W c j = V c j) ∧ ∀ c, 0 ≤ c → c < V 72 19 → W 77 (V 88 c) = V 77 (V 88 c) ∧ ∀ q, 0 ≤ q → q < 576 → (InM W c q ↔ InM V c q)
section AGN
variable {V W : vS}
theorem lat_n (A : agN V W) (c o k : Int) : lat W c o k ↔ lat V c o k := by
  obtain ⟨a, b, d, -⟩ := A
  unfold lat
  simp only [a, b, d]
theorem mcn_n (A : agN V W) {c : Int} (c0 : 0 ≤ c) (cN : c < V 72 19) (k : Int) : mcn W c k ↔ mcn V c k := by
  have e := (A.2.2.2.2.2 c c0 cN).1
  unfold mcn
  simp only [lat_n A, A.2.2.1, A.2.1, A.2.2.2.1.1, e]
theorem mmg_n (A : agN V W) (c k : Int) (i : Nat) : mmg W c k i = mmg V c k i := by
  have e := A.2.2.2.2.1
  induction i with
  | zero => rfl
  | succ i ih =>
    rw [mmg_s, mmg_s, ih, e 98 _ (by decide) (by decide), e 99 _ (by decide) (by decide), e 100 _ (by decide) (by decide), e 101 _ (by decide) (by decide), e 102 _ (by decide) (by decide), A.1, A.2.1, A.2.2.1]
theorem isO_n (A : agN V W) (x y yr k : Int) : isO W x y yr k ↔ isO V x y yr k := by
  have f := A.2.2.2.2.1
  have e : ∀ i, oHm W x y yr k i ↔ oHm V x y yr k i := fun i => by
    unfold oHm
    rw [f 97 i (by decide) (by decide), f 96 i (by decide) (by decide), f 92 i (by decide) (by decide), f 93 i (by decide) (by decide), f 94 i (by decide) (by decide), f 95 i (by decide) (by decide)]
  unfold isO
  simp only [e, A.2.2.2.1.2.1]
theorem lk_n (A : agN V W) {c : Int} (c0 : 0 ≤ c) (cN : c < V 72 19) (k yr : Int) : LkM W k yr c ↔ LkM V k yr c := by
  unfold LkM
  rw [mcn_n A c0 cN k, A.2.2.1 c]
theorem DB_n (A : agN V W) {q : Int} (q0 : 0 ≤ q) (q1 : q < 576) (k yr : Int) : DB W k yr q ↔ DB V k yr q := by
  have e19 := A.2.2.2.1.1
  unfold DB
  constructor
  · rintro ⟨c1, c2, ⟨n1, l1, i1⟩, ⟨n2, l2, i2⟩, ne⟩
    rw [e19] at n1 n2
    rw [A.1, A.1] at ne
    exact ⟨c1, c2, ⟨n1, (lk_n A n1.1 n1.2 k yr).mp l1, ((A.2.2.2.2.2 c1 n1.1 n1.2).2 q q0 q1).mp i1⟩, ⟨n2, (lk_n A n2.1 n2.2 k yr).mp l2, ((A.2.2.2.2.2 c2 n2.1 n2.2).2 q q0 q1).mp i2⟩, ne⟩
  · rintro ⟨c1, c2, ⟨n1, l1, i1⟩, ⟨n2, l2, i2⟩, ne⟩
    rw [← A.1 c1, ← A.1 c2] at ne
    exact ⟨c1, c2, ⟨by rw [e19]; exact n1, (lk_n A n1.1 n1.2 k yr).mpr l1, ((A.2.2.2.2.2 c1 n1.1 n1.2).2 q q0 q1).mpr i1⟩, ⟨by rw [e19]; exact n2, (lk_n A n2.1 n2.2 k yr).mpr l2, ((A.2.2.2.2.2 c2 n2.1 n2.2).2 q q0 q1).mpr i2⟩, ne⟩
theorem tkQ_n (A : agN V W) {q : Int} (q0 : 0 ≤ q) (q1 : q < 576) (k yr c : Int) : tkQ W k yr c q ↔ tkQ V k yr c q := by
  have e19 := A.2.2.2.1.1
  unfold tkQ
  constructor
  · rintro ⟨o, ⟨n, l, i⟩, f, g⟩
    rw [e19] at n
    rw [A.1, A.1] at f
    rw [A.2.1, A.2.1] at g
    exact ⟨o, ⟨n, (lk_n A n.1 n.2 k yr).mp l, ((A.2.2.2.2.2 o n.1 n.2).2 q q0 q1).mp i⟩, f, g⟩
  · rintro ⟨o, ⟨n, l, i⟩, f, g⟩
    exact ⟨o, ⟨by rw [e19]; exact n, (lk_n A n.1 n.2 k yr).mpr l, ((A.2.2.2.2.2 o n.1 n.2).2 q q0 q1).mpr i⟩, by rw [A.1, A.1]; exact f, by rw [A.2.1, A.2.1]; exact g⟩
theorem vG_n (A : agN V W) {c : Int} (c0 : 0 ≤ c) (cN : c < V 72 19) (k : Int) : vG W k c = vG V k c := by
  unfold vG
  rw [A.2.2.1 c]
  refine nQ_c 576 (fun q q0 q1 => ?_)
  have q1 : q < 576 := q1
  unfold gdR
  rw [(A.2.2.2.2.2 c c0 cN).2 q q0 q1, DB_n A q0 q1, isO_n A, tkQ_n A q0 q1]
theorem vB_n (A : agN V W) {c : Int} (c0 : 0 ≤ c) (cN : c < V 72 19) (k : Int) : vB W k c = vB V k c := by
  unfold vB
  rw [A.2.2.1 c]
  refine nQ_c 576 (fun q q0 q1 => ?_)
  have q1 : q < 576 := q1
  unfold bdR
  rw [(A.2.2.2.2.2 c c0 cN).2 q q0 q1, DB_n A q0 q1]
theorem vF_n (A : agN V W) {c : Int} (c0 : 0 ≤ c) (cN : c < V 72 19) (k : Int) : vF W k c = vF V k c := by
  unfold vF
  rw [vG_n A c0 cN k, A.2.2.2.1.2.2, mmg_n A]
theorem rOK_n (A : agN V W) (h3 : ∀ (c : Nat) j, 103 ≤ c → c ≤ 110 → W c j = V c j) (e8 : W 72 38 = V 72 38) (e9 : W 72 39 = V 72 39) (R : rOK V) : rOK W := by
  intro z
  obtain ⟨a, b⟩ := R (e8.symm.trans z)
  rw [e9]
  have e19 := A.2.2.2.1.1
  refine ⟨fun c c0 cN => ?_, fun c c0 cN m y0 y1 => ?_⟩
  · rw [e19] at cN
    rw [h3 103 c (by decide) (by decide), a c c0 cN]
    exact (bI_c (mcn_n A c0 cN _)).symm
  · rw [e19] at cN
    rw [A.2.2.1 c] at y0 y1
    have r := b c c0 cN ((mcn_n A c0 cN _).mp m) y0 y1
    exact ⟨(h3 104 c (by decide) (by decide)).trans (r.1.trans (vG_n A c0 cN _).symm), (h3 106 c (by decide) (by decide)).trans (r.2.1.trans (vB_n A c0 cN _).symm), (h3 105 c (by decide) (by decide)).trans (r.2.2.trans (vF_n A c0 cN _).symm)⟩
end AGN
def JRk (V : vS) : Prop := rOK V
theorem JRk_e {V W : vS} (R : JRk V) (e : ∀ (c : Nat) j, 72 ≤ c → c ≤ 110 → W c j = V c j) : JRk W :=
  rOK_n (V := V) (W := W) ⟨fun c => e 87 c (by decide) (by decide), fun c => e 88 c (by decide) (by decide), fun c => e 90 c (by decide) (by decide), ⟨e 72 _ (by decide) (by decide), e 72 _ (by decide) (by decide), e 72 _ (by decide) (by decide)⟩, fun c j u v => e c j (by omega) (by omega), fun c _ _ => ⟨e 77 _ (by decide) (by decide), fun q _ _ => by unfold InM; rw [e 88 c (by decide) (by decide)]; exact isI_c (fun j => e 80 j (by decide) (by decide)) _ _⟩⟩ (fun c j u v => e c j (by omega) v) (e 72 _ (by decide) (by decide)) (e 72 _ (by decide) (by decide)) R
def LRk : List (Nat × Option Nat) := [(72, some 19), (72, some 25), (72, some 32), (72, some 38), (72, some 39), (77, none), (80, none), (87, none), (88, none), (90, none), (92, none), (93, none), (94, none), (95, none), (96, none), (97, none), (98, none), (99, none), (100, none), (101, none), (102, none), (103, none), (104, none), (105, none), (106, none), (107, none), (108, none), (109, none), (110, none)]
theorem JRk_ag {V W : vS} (R : JRk V) (A : ag LRk V W) : JRk W := by
  obtain ⟨a19, a25, a32, a38, a39, a77, a80, a87, a88, a90, a92, a93, a94, a95, a96, a97, a98, a99, a100, a101, a102, a103, a104, a105, a106, a107, a108, a109, a110, -⟩ := A
  refine rOK_n (V := V) (W := W) ⟨a87, a88, a90, ⟨a19, a25, a32⟩, fun c j u v => ?_, fun c _ _ => ⟨a77 _, fun q _ _ => by unfold InM; rw [a88 c]; exact isI_c a80 _ _⟩⟩ (fun c j u v => ?_) a38 a39 R
  · have z : c = 92 ∨ c = 93 ∨ c = 94 ∨ c = 95 ∨ c = 96 ∨ c = 97 ∨ c = 98 ∨ c = 99 ∨ c = 100 ∨ c = 101 ∨ c = 102 := by omega
    rcases z with z | z | z | z | z | z | z | z | z | z | z <;> rw [z]
    · exact a92 j
    · exact a93 j
    · exact a94 j
    · exact a95 j
    · exact a96 j
    · exact a97 j
    · exact a98 j
    · exact a99 j
    · exact a100 j
    · exact a101 j
    · exact a102 j
  · have z : c = 103 ∨ c = 104 ∨ c = 105 ∨ c = 106 ∨ c = 107 ∨ c = 108 ∨ c = 109 ∨ c = 110 := by omega
    rcases z with z | z | z | z | z | z | z | z <;> rw [z]
    · exact a103 j
    · exact a104 j
    · exact a105 j
    · exact a106 j
    · exact a107 j
    · exact a108 j
    · exact a109 j
    · exact a110 j
theorem JRk_dG {W : List (Nat × Nat)} {σ σ1 : List Nat} {h h1 : aH} (J : JRk (vw h)) (I : dI σ h) (G : dG W σ h σ1 h1) (k : frL W LRk = true) : JRk (vw h1) := JRk_ag J (ag_dG I.1 G _ k)


-- ===== templates =====
def dRT (ρ : List Int) (mu : List (Nat × Int)) : List Int := mu.map (fun m => (ρ[m.1]?).getD 0 + m.2)
def dHT (rh nu : List Nat) : List Nat := nu.map (fun c => bif Nat.blt c 146 then c else (rh[c - 1000]?).getD 0)
theorem dRT_get {ρ : List Int} {mu : List (Nat × Int)} {j : Nat} {m : Nat × Int} {y : Int} (e : mu[j]? = some m) (f : ρ[m.1]? = some y) : (dRT ρ mu)[j]? = some (y + m.2) := by
  unfold dRT
  rw [List.getElem?_map, e]
  simp only [Option.map_some, f, Option.getD_some]
theorem dHT_get {rh nu : List Nat} {i c q : Nat} (e : nu[i]? = some c) (f : dR rh c q) : (dHT rh nu)[i]? = some q := by
  unfold dHT
  rw [List.getElem?_map, e]
  simp only [Option.map_some]
  rcases f with ⟨f1, rfl⟩ | ⟨f1, f2⟩
  · rw [Nat.blt_eq.mpr f1]; rfl
  · rw [show Nat.blt c 146 = false by rw [← Bool.not_eq_true, Nat.blt_eq]; omega]
    simp only [cond_false, f2, Option.getD_some]
theorem ccq_s {σ : List Nat} {h : aH} {ρ : List Int} {rh : List Nat} {K : cK} (k : dK σ h ρ rh K) {p q : Nat} {o r y z : Int} (e : ρ[p]? = some y) (f : ρ[q]? = some z) (g : ccq K p o q r = true) : y + o = z + r := by
  unfold ccq at g
  have b1 := clo_s (o := o) k e
  have b2 := clo_s (o := r) k f
  rw [Bool.or_eq_true, Bool.and_eq_true, Bool.and_eq_true, Bool.and_eq_true, ceI_i, ceI_i, ceI_i, ceI_i] at g
  rcases g with ⟨g1, g2⟩ | ⟨⟨g1, g2⟩, g3⟩
  · have := Nat.eq_of_beq_eq_true g1
    subst this
    rw [e] at f
    cases f
    omega
  · omega
/-- mu's numbers are there -/
def dMu (ρ : List Int) (mu : List (Nat × Int)) : Prop := ∀ (j : Nat) (m : Nat × Int), mu[j]? = some m → ∃ y, ρ[m.1]? = some y
theorem code_s {rh nu : List Nat} {t c q : Nat} (h : (bif Nat.blt t 1000 then Nat.beq c t else match nu[t - 1000]? with
    | some x => Nat.beq c x
    | none => false) = true) (f : dR rh c q) : dR (dHT rh nu) t q := by
  cases h1 : Nat.blt t 1000 with
  | true =>
    rw [h1] at h
    have := Nat.eq_of_beq_eq_true h
    subst this
    have h1 := Nat.blt_eq.mp h1
    rcases f with f | ⟨f, _⟩
    · exact Or.inl f
    · omega
  | false =>
    rw [h1] at h
    have h1 : ¬ t < 1000 := fun q => by rw [← Nat.blt_eq, h1] at q; cases q
    simp only [cond_false] at h
    split at h
    · rename_i x e
      have := Nat.eq_of_beq_eq_true h
      subst this
      exact Or.inr ⟨by omega, dHT_get e f⟩
    · cases h
theorem cvw_s {σ : List Nat} {h : aH} {ρ : List Int} {rh : List Nat} {K : cK} (k : dK σ h ρ rh K) {mu : List (Nat × Int)} {nu : List Nat} (hm : dMu ρ mu) {t w : cW} {v : Value} (g : cvw K mu nu t w = true) (hw : dW ρ rh w v) : dW (dRT ρ mu) (dHT rh nu) t v := by
  unfold cvw at g
  unfold dW
  split at g
  · rename_i et
    rw [et]
    rw [Bool.and_eq_true] at g
    have ew := Nat.eq_of_beq_eq_true g.1
    unfold dW at hw
    rw [ew] at hw
    obtain ⟨x, y, rfl, e1, e2⟩ := hw
    have g2 := g.2
    split at g2
    · rename_i m em
      obtain ⟨z, hz⟩ := hm _ _ em
      have := ccq_s k hz e1 g2
      exact ⟨x, _, rfl, dRT_get em hz, by omega⟩
    · cases g2
  · rename_i et
    rw [et]
    rw [Bool.and_eq_true] at g
    have ew := Nat.eq_of_beq_eq_true g.1
    unfold dW at hw
    rw [ew] at hw
    obtain ⟨x, y, rfl, e1, e2⟩ := hw
    have g2 := g.2
    split at g2
    · rename_i m em
      obtain ⟨z, hz⟩ := hm _ _ em
      have := ccq_s k hz e1 g2
      exact ⟨x, _, rfl, dRT_get em hz, by omega⟩
    · cases g2
  · rename_i et
    rw [et]
    rw [Bool.and_eq_true] at g
    have ew := Nat.eq_of_beq_eq_true g.1
    unfold dW at hw
    rw [ew] at hw
    obtain ⟨q, rfl, hq⟩ := hw
    exact ⟨q, rfl, code_s g.2 hq⟩
  · rename_i et
    rw [et]
    have ew := Nat.eq_of_beq_eq_true g
    unfold dW at hw
    rw [ew] at hw
    exact hw
  · rename_i et
    rw [et]
    rw [Bool.and_eq_true] at g
    have ew := Nat.eq_of_beq_eq_true g.1
    unfold dW at hw
    rw [ew] at hw
    rw [← Nat.eq_of_beq_eq_true g.2]
    exact hw
  · rename_i et
    rw [et]
    rw [Bool.and_eq_true, Bool.or_eq_true] at g
    obtain ⟨g1, g2⟩ := g
    unfold dW at hw
    rcases g1 with g1 | g1
    · rw [Nat.eq_of_beq_eq_true g1] at hw
      obtain ⟨q, rfl, hq⟩ := hw
      exact Or.inr ⟨q, rfl, code_s g2 hq⟩
    · rw [Nat.eq_of_beq_eq_true g1] at hw
      rcases hw with rfl | ⟨q, rfl, hq⟩
      · exact Or.inl rfl
      · exact Or.inr ⟨q, rfl, code_s g2 hq⟩
  · cases g
theorem cvl_S {σ : List Nat} {h : aH} {ρ : List Int} {rh : List Nat} {K : cK} (k : dK σ h ρ rh K) {mu : List (Nat × Int)} {nu : List Nat} (hm : dMu ρ mu) : ∀ {ts ws : List cW} {vs : List Value}, cvl (cvw K mu nu) ts ws = true → dS ρ rh ws vs → dS (dRT ρ mu) (dHT rh nu) ts vs
  | [], [], [], _, _ => trivial
  | t :: r, w :: s, v :: u, g, hS => by
    have g : (cvw K mu nu t w && cvl (cvw K mu nu) r s) = true := g
    rw [Bool.and_eq_true] at g
    exact ⟨cvw_s k hm g.1 hS.1, cvl_S k hm g.2 hS.2⟩
  | [], [], _ :: _, _, hS => hS.elim
  | _ :: _, _ :: _, [], _, hS => hS.elim
  | [], _ :: _, _, g, _ => by cases g
  | _ :: _, [], _, g, _ => by cases g
theorem cvl_len {f : cW → cW → Bool} : ∀ {ts ws : List cW}, cvl f ts ws = true → ts.length = ws.length
  | [], [], _ => rfl
  | t :: r, w :: s, g => by
    have g : (f t w && cvl f r s) = true := g
    rw [Bool.and_eq_true] at g
    simp [cvl_len g.2]
  | [], _ :: _, g => by cases g
  | _ :: _, [], g => by cases g
theorem cvl_at {f : cW → cW → Bool} : ∀ {ts ws : List cW} {i : Nat} {t : cW}, cvl f ts ws = true → ts[i]? = some t → ∃ w, ws[i]? = some w ∧ f t w = true
  | [], _, _, _, _, e => by simp at e
  | t :: r, w :: s, i, t', g, e => by
    have g : (f t w && cvl f r s) = true := g
    rw [Bool.and_eq_true] at g
    cases i with
    | zero => simp at e; subst e; exact ⟨w, rfl, g.1⟩
    | succ i =>
      rw [List.getElem?_cons_succ] at e
      obtain ⟨w', a, b⟩ := cvl_at g.2 e
      exact ⟨w', by rw [List.getElem?_cons_succ]; exact a, b⟩
  | _ :: _, [], _, _, g, _ => by cases g
theorem cver_s {σ : List Nat} {h : aH} {ρ : List Int} {rh : List Nat} {K : cK} (H : dH σ h) (k : dK σ h ρ rh K) {T : cT} {L St : List cW} {mu : List (Nat × Int)} {nu : List Nat} (g : cver T L St K mu nu = true) {l : aL} {sv : List Value} (hL : dL ρ rh L l) (hS : dS ρ rh St sv) :
    dK σ h (dRT ρ mu) (dHT rh nu) T.2.2 ∧ dL (dRT ρ mu) (dHT rh nu) T.1 l ∧ dS (dRT ρ mu) (dHT rh nu) T.2.1 sv ∧ dMu ρ mu := by
  unfold cver at g
  simp only [Bool.and_eq_true] at g
  obtain ⟨⟨⟨⟨⟨⟨⟨⟨⟨gL, gS⟩, gF⟩, gM, gM0⟩, gV⟩, gD⟩, gN⟩, gR, gR2⟩, gE⟩, gA⟩ := g
  have hlen := Nat.eq_of_beq_eq_true gM
  have hm : dMu ρ mu := by
    intro j m e
    have hj : j < mu.length := (List.getElem?_eq_some_iff.mp e).1
    have hv : T.2.2.1[j]? = some (T.2.2.1[j]'(by omega)) := List.getElem?_eq_getElem (by omega)
    have hz : (List.zip mu T.2.2.1)[j]? = some (m, T.2.2.1[j]'(by omega)) := by rw [List.getElem?_zip_eq_some]; exact ⟨e, hv⟩
    have := List.all_eq_true.mp gV _ (List.mem_of_getElem? hz)
    simp only [Bool.and_eq_true, Nat.blt_eq] at this
    have hl : m.1 < ρ.length := by rw [k.1.1]; exact this.1.1
    exact ⟨_, List.getElem?_eq_getElem hl⟩
  have hmd : ∀ (j : Nat) (y : Int), (dRT ρ mu)[j]? = some y → ∃ m z, mu[j]? = some m ∧ ρ[m.1]? = some z ∧ y = z + m.2 := by
    intro j y e
    have hj : j < mu.length := by
      have := (List.getElem?_eq_some_iff.mp e).1
      unfold dRT at this
      rw [List.length_map] at this
      exact this
    have em : mu[j]? = some mu[j] := List.getElem?_eq_getElem hj
    obtain ⟨z, hz⟩ := hm j _ em
    refine ⟨_, z, em, hz, ?_⟩
    rw [dRT_get em hz] at e
    cases e; rfl
  have hnl : nu.length = T.2.2.2.2.2.1.length := Nat.eq_of_beq_eq_true gR
  refine ⟨⟨⟨by unfold dRT; rw [List.length_map]; exact hlen, ?_, fun p y q e1 e2 => ?_⟩, fun t ht => ?_, fun t ht => ?_, ⟨by unfold dHT; rw [List.length_map]; exact hnl, fun i r e => ?_⟩, fun t ht => ?_, fun t ht => ?_, fun t ht => ?_⟩, ⟨?_, fun i t e => ?_⟩, cvl_S k hm gS hS, hm⟩
  · split at gM0
    · rename_i m r
      rw [Bool.and_eq_true, ceI_i] at gM0
      have h0 := Nat.eq_of_beq_eq_true gM0.1
      have : (m :: r)[0]? = some m := rfl
      rw [dRT_get this (by rw [h0]; exact k.1.2.1), gM0.2]
      rfl
    · cases gM0
  · obtain ⟨m, z, em, hz, rfl⟩ := hmd p y e1
    have hzp : (List.zip mu T.2.2.1)[p]? = some (m, q) := by rw [List.getElem?_zip_eq_some]; exact ⟨em, e2⟩
    have := List.all_eq_true.mp gV _ (List.mem_of_getElem? hzp)
    simp only [Bool.and_eq_true, cle_i] at this
    have u1 := cub_s k hz
    have l1 := clb_s k hz
    omega
  · have := List.all_eq_true.mp gD t ht
    split at this
    · rename_i m em
      split at this
      · rename_i n en
        obtain ⟨y, hy⟩ := hm _ _ em
        obtain ⟨z, hz⟩ := hm _ _ en
        have := cdf_s k hy hz this
        exact ⟨_, _, dRT_get em hy, dRT_get en hz, by omega⟩
      · cases this
    · cases this
  · have := List.all_eq_true.mp gN t ht
    split at this
    · rename_i m em
      obtain ⟨y, hy⟩ := hm _ _ em
      have := cnz_s k hy this
      exact ⟨_, dRT_get em hy, by omega⟩
    · cases this
  · have hi : i < nu.length := by rw [hnl]; exact (List.getElem?_eq_some_iff.mp e).1
    have en : nu[i]? = some nu[i] := List.getElem?_eq_getElem hi
    have hz : (List.zip nu T.2.2.2.2.2.1)[i]? = some (nu[i], r) := by rw [List.getElem?_zip_eq_some]; exact ⟨en, e⟩
    have := List.all_eq_true.mp gR2 _ (List.mem_of_getElem? hz)
    split at this
    · rename_i r' er
      have hr := Nat.eq_of_beq_eq_true this
      dsimp only at er hr
      subst hr
      obtain ⟨q, hq⟩ := creg_ex k er
      exact ⟨q, dHT_get en hq, creg_s H k er hq⟩
    · cases this
  · have := List.all_eq_true.mp gF t ht
    rw [Bool.and_eq_true, Bool.or_eq_true, Nat.blt_eq, Nat.blt_eq] at this
    obtain ⟨hc, this⟩ := this
    split at this
    · rename_i f ef
      have hmf := List.mem_of_find?_eq_some ef
      have hp := List.find?_some ef
      simp only [Bool.and_eq_true] at hp
      obtain ⟨q, ci, fs, v, a, b, c, d⟩ := k.2.2.2.2.1 f hmf
      refine ⟨q, ci, fs, v, ?_, b, by rw [← Nat.eq_of_beq_eq_true hp.2]; exact c, cvw_s k hm this d⟩
      have h1 := Nat.eq_of_beq_eq_true hp.1
      unfold cnc at h1
      cases hb : Nat.blt t.1 1000 with
      | true =>
        rw [hb] at h1
        simp only [cond_true] at h1
        rw [h1] at a
        have hb := Nat.blt_eq.mp hb
        rcases a with a | ⟨a, _⟩
        · exact Or.inl a
        · omega
      | false =>
        rw [hb] at h1
        simp only [cond_false] at h1
        have hb : ¬ t.1 < 1000 := fun q => by rw [← Nat.blt_eq, hb] at q; cases q
        have hl : t.1 - 1000 < nu.length := by omega
        have en : nu[t.1 - 1000]? = some nu[t.1 - 1000] := List.getElem?_eq_getElem hl
        rw [en] at h1
        dsimp only at h1
        rw [h1] at a
        exact Or.inr ⟨by omega, dHT_get en a⟩
    · cases this
  · split at gE
    · rename_i e; rw [e] at ht; cases ht
    · cases gE
  · split at gA
    · rename_i e; rw [e] at ht; cases ht
    · cases gA
  · rw [hL.1]; exact (cvl_len gL).symm
  · obtain ⟨w, ew, hw⟩ := cvl_at gL e
    rw [Bool.or_eq_true] at hw
    rcases hw with hw | hw
    · exact Or.inl (Nat.eq_of_beq_eq_true hw)
    · rcases hL.2 i w ew with q | ⟨v, q1, q2⟩
      · exfalso
        unfold cvw at hw
        split at hw <;> first | (rw [q] at hw; simp at hw; done) | cases hw
      · exact Or.inr ⟨v, q1, cvw_s k hm hw q2⟩
theorem dK_ld0 {σ : List Nat} {h : aH} {ρ : List Int} {rh : List Nat} {K : cK} (k : dK σ h ρ rh K) {c b q ci : Nat} {fs : List Value} {x : Int32} {lo hi : Int} (hq : dR rh c q) (h1 : h.1[q]? = some (.inr (ci, fs))) (h2 : fs[b]? = some (.int x)) (h3 : lo ≤ x.toInt) (h4 : x.toInt ≤ hi) :
    dK σ h (ρ ++ [x.toInt]) rh (K.1 ++ [(lo, hi)], K.2.1, K.2.2.1, K.2.2.2.1, (c, b, 1, K.1.length, 0) :: K.2.2.2.2.1, K.2.2.2.2.2) := by
  have k' := dK_new (z := x.toInt) k h3 h4
  refine ⟨k'.1, k'.2.1, k'.2.2.1, k'.2.2.2.1, fun u hu => ?_, k'.2.2.2.2.2⟩
  rcases List.mem_cons.mp hu with rfl | hu
  · exact ⟨q, _, _, _, hq, h1, h2, ⟨x, x.toInt, rfl, kV_last k.1 _, by show x.toInt = x.toInt + 0; omega⟩⟩
  · exact k'.2.2.2.2.1 u hu
theorem cff_s {α : Type} {σ : List Nat} {h : aH} {rh : List Nat} (H : dH σ h) {f : cK → List (Option (Nat × Int)) × List (Option Nat) → Option α} {x : α} : ∀ (F : List (Nat × Nat × cW)) (K : cK) (a : List (Option (Nat × Int)) × List (Option Nat)) (ρ : List Int), cff f F K a = some x → dK σ h ρ rh K →
    ∃ K' a' ρ', f K' a' = some x ∧ dK σ h ρ' rh K' ∧ dX ρ ρ'
  | [], K, a, ρ, e, k => ⟨K, a, ρ, e, k, dX_refl _⟩
  | t :: r, K, a, ρ, e, k => by
    unfold cff at e
    split at e
    · exact cff_s H r _ _ ρ e k
    · split at e
      · rename_i g eg
        split at e
        · rename_i ty et
          cases h0 : Nat.beq ty.1 0 with
          | false => rw [h0] at e; cases e
          | true =>
            rw [h0] at e
            simp only [cond_true] at e
            split at e
            · rename_i fty ef
              cases h1 : Nat.beq fty.1 0 with
              | false => rw [h1] at e; cases e
              | true =>
                rw [h1] at e
                simp only [cond_true] at e
                obtain ⟨q, hq⟩ := creg_ex k eg
                have hs := creg_s H k eg hq
                obtain ⟨c0, d1, d2⟩ := dH_cell H hs et
                obtain ⟨fs, rfl, f2, f3⟩ := dC_0 d2 (Nat.eq_of_beq_eq_true h0)
                obtain ⟨v, v1, v2⟩ := f3 _ _ ef
                unfold dT at v2
                rw [Nat.eq_of_beq_eq_true h1] at v2
                obtain ⟨y, rfl, y1, y2⟩ := v2
                obtain ⟨K', a', ρ', r1, r2, r3⟩ := cff_s H r _ _ _ e (dK_ld0 k hq d1 v1 y1 y2)
                exact ⟨K', a', ρ', r1, r2, dX_trans (dX_app _ _) r3⟩
            · cases e
        · cases e
      · cases e
theorem cent_s {α : Type} {σ : List Nat} {h : aH} {ρ : List Int} {rh : List Nat} {K : cK} (H : dH σ h) (k : dK σ h ρ rh K) {T : cT} {L St : List cW} {f : cK → List (Nat × Int) → List Nat → Option α} {x : α} (e : cent T L St K f = some x) :
    ∃ K' mu nu ρ', f K' mu nu = some x ∧ dK σ h ρ' rh K' ∧ dX ρ ρ' ∧ cver T L St K' mu nu = true := by
  unfold cent at e
  obtain ⟨K', a', ρ', e1, e2, e3⟩ := cff_s H _ _ _ _ e k
  cases hc : cver T L St K' (cfm K'.1 a'.1) (cfn a'.2) with
  | false => rw [hc] at e1; cases e1
  | true =>
    rw [hc] at e1
    exact ⟨K', _, _, ρ', e1, e2, e3, hc⟩

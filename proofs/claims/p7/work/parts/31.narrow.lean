-- ===== narrowing, branches, sums =====
theorem kV_set {ρ : List Int} {V : cV} {p : Nat} {y l u : Int} (h : kV ρ V) (e : ρ[p]? = some y) (h1 : l ≤ y) (h2 : y ≤ u) : kV ρ (V.set p (l, u)) := by
  refine ⟨by rw [List.length_set]; exact h.1, h.2.1, fun i x q e1 e2 => ?_⟩
  rw [List.getElem?_set] at e2
  split at e2
  · rename_i hi
    subst hi
    rw [e] at e1; cases e1
    split at e2
    · cases e2; exact ⟨h1, h2⟩
    · cases e2
  · exact h.2.2 i x q e1 e2
theorem cnle_s {σ : List Nat} {h : aH} {ρ : List Int} {rh : List Nat} {K : cK} (k : dK σ h ρ rh K) {p q : Nat} {o r y z : Int} (e : ρ[p]? = some y) (f : ρ[q]? = some z) (g : y + o ≤ z + r) : ∃ K1, cnle K p o q r = some K1 ∧ dK σ h ρ rh K1 := by
  unfold cnle
  cases hpq : Nat.beq p q with
  | true =>
    have := Nat.eq_of_beq_eq_true hpq
    subst this
    rw [e] at f; cases f
    rw [show cle o r = true by rw [cle_i]; omega]
    exact ⟨K, rfl, k⟩
  | false =>
    simp only [cond_false]
    have u1 := cub_s k e
    have u2 := cub_s k f
    have l1 := clb_s k e
    have l2 := clb_s k f
    have a1 : y ≤ cmn (cub K p) (cub K q + (r - o)) := by rcases cmn_or (a := cub K p) (b := cub K q + (r - o)) with w | w <;> rw [w] <;> omega
    have a2 : cmx (clb K q) (clb K p - (r - o)) ≤ z := by rcases cmx_or (a := clb K q) (b := clb K p - (r - o)) with w | w <;> rw [w] <;> omega
    have c1 : cle (clb K p) (cmn (cub K p) (cub K q + (r - o))) = true := by rw [cle_i]; omega
    have c2 : cle (cmx (clb K q) (clb K p - (r - o))) (cub K q) = true := by rw [cle_i]; omega
    rw [c1, c2]
    refine ⟨_, rfl, ?_, ?_, k.2.2⟩
    · exact kV_set (kV_set k.1 e (cV0_s k.1 e).1 a1) f a2 (cV0_s k.1 f).2
    · show kD ρ (bif Nat.beq p 0 || Nat.beq q 0 then K.2.1 else (p, q, r - o) :: K.2.1)
      cases (Nat.beq p 0 || Nat.beq q 0) with
      | true => exact k.2.1
      | false =>
        intro t ht
        rcases List.mem_cons.mp ht with rfl | ht
        · exact ⟨y, z, e, f, by show y - z ≤ r - o; omega⟩
        · exact k.2.1 t ht
theorem cnec_s {σ : List Nat} {h : aH} {ρ : List Int} {rh : List Nat} {K : cK} (k : dK σ h ρ rh K) {p : Nat} {c y : Int} (e : ρ[p]? = some y) (g : y ≠ c) : ∃ K1, cnec K p c = some K1 ∧ dK σ h ρ rh K1 := by
  unfold cnec
  have u1 := cub_s k e
  have l1 := clb_s k e
  have a1 : (bif ceI (clb K p) c then clb K p + 1 else clb K p) ≤ y := by
    cases w : ceI (clb K p) c with
    | true => rw [ceI_i] at w; simp only [cond_true]; omega
    | false => simp only [cond_false]; omega
  have a2 : y ≤ (bif ceI (cub K p) c then cub K p - 1 else cub K p) := by
    cases w : ceI (cub K p) c with
    | true => rw [ceI_i] at w; simp only [cond_true]; omega
    | false => simp only [cond_false]; omega
  have c1 : cle (bif ceI (clb K p) c then clb K p + 1 else clb K p) (bif ceI (cub K p) c then cub K p - 1 else cub K p) = true := by rw [cle_i]; omega
  dsimp only
  rw [c1]
  refine ⟨_, rfl, kV_set k.1 e a1 a2, k.2.1, ?_, k.2.2.2⟩
  show kN ρ (bif ceI (clb K p) c || ceI (cub K p) c then K.2.2.1 else (p, -c) :: K.2.2.1)
  cases (ceI (clb K p) c || ceI (cub K p) c) with
  | true => exact k.2.2.1
  | false =>
    intro t ht
    rcases List.mem_cons.mp ht with rfl | ht
    · exact ⟨y, e, by show y + -c ≠ 0; omega⟩
    · exact k.2.2.1 t ht
theorem cnne_s {σ : List Nat} {h : aH} {ρ : List Int} {rh : List Nat} {K : cK} (k : dK σ h ρ rh K) {p q : Nat} {o r y z : Int} (e : ρ[p]? = some y) (f : ρ[q]? = some z) (g : y + o ≠ z + r) : ∃ K1, cnne K p o q r = some K1 ∧ dK σ h ρ rh K1 := by
  unfold cnne
  cases hpq : Nat.beq p q with
  | true =>
    have := Nat.eq_of_beq_eq_true hpq
    subst this
    rw [e] at f; cases f
    cases w : ceI o r with
    | true => rw [ceI_i] at w; omega
    | false => exact ⟨K, rfl, k⟩
  | false =>
    simp only [cond_false]
    have u1 := cub_s k e
    have u2 := cub_s k f
    have l1 := clb_s k e
    have l2 := clb_s k f
    cases w : ceI (clb K q) (cub K q) with
    | true =>
      rw [ceI_i] at w
      simp only [cond_true]
      exact cnec_s k e (by omega)
    | false =>
      simp only [cond_false]
      cases w : ceI (clb K p) (cub K p) with
      | true =>
        rw [ceI_i] at w
        simp only [cond_true]
        exact cnec_s k f (by omega)
      | false => exact ⟨K, rfl, k⟩
theorem cneq_s {σ : List Nat} {h : aH} {ρ : List Int} {rh : List Nat} {K : cK} (k : dK σ h ρ rh K) {p q : Nat} {o r y z : Int} (e : ρ[p]? = some y) (f : ρ[q]? = some z) (g : y + o = z + r) : ∃ K1, cneq K p o q r = some K1 ∧ dK σ h ρ rh K1 := by
  unfold cneq
  obtain ⟨K1, e1, k1⟩ := cnle_s k e f (by omega : y + o ≤ z + r)
  rw [e1]
  exact cnle_s k1 f e (by omega)
def dSub (a b : List cEx) : Prop := ∀ e, e ∈ a → e ∈ b
theorem dSub_refl (a : List cEx) : dSub a a := fun _ h => h
theorem dSub_trans {a b c : List cEx} (h : dSub a b) (g : dSub b c) : dSub a c := fun e m => g e (h e m)
theorem cap_s {a b : Option (List cEx)} {es : List cEx} (h : cap a b = some es) : ∃ x y, a = some x ∧ b = some y ∧ dSub x es ∧ dSub y es := by
  unfold cap at h
  split at h
  · split at h
    · cases h
      exact ⟨_, _, rfl, rfl, fun e m => List.mem_append_left _ m, fun e m => List.mem_append_right _ m⟩
    · cases h
  · cases h
/-- of a branch, the side that the numbers take -/
def dBr (c : Jvm.ClassFile.Cond) (a b : Int) : Bool := match c with
  | .eq => ceI a b
  | .ne => !ceI a b
  | .lt => cle (a + 1) b
  | .ge => cle b a
  | .gt => cle (b + 1) a
  | .le => cle a b
theorem cbr_s {a : Option cK} {k : cK → Option (List cEx)} {K1 : cK} {x : List cEx} (h : cbr a k = some x) (e : a = some K1) : k K1 = some x := by
  subst e; exact h
theorem ccmp_s {σ : List Nat} {h : aH} {ρ : List Int} {rh : List Nat} {K : cK} (k : dK σ h ρ rh K) {p q : Nat} {o r y z : Int} (e : ρ[p]? = some y) (f : ρ[q]? = some z) {c : Jvm.ClassFile.Cond} {k1 k2 : cK → Option (List cEx)} {es : List cEx} (hc : ccmp c K p o q r k1 k2 = some es) :
    (dBr c (y + o) (z + r) = true → ∃ K1 x, k1 K1 = some x ∧ dSub x es ∧ dK σ h ρ rh K1) ∧ (dBr c (y + o) (z + r) = false → ∃ K1 x, k2 K1 = some x ∧ dSub x es ∧ dK σ h ρ rh K1) := by
  have nle : ∀ {a b : Int}, cle a b = false → b + 1 ≤ a := fun {a b} q => by
    have : ¬ a ≤ b := fun c => by rw [← cle_i, q] at c; cases c
    omega
  have nle' : ∀ {a b : Int}, cle (a + 1) b = false → b ≤ a := fun {a b} q => by have := nle q; omega
  have neI : ∀ {a b : Int}, ceI a b = false → a ≠ b := fun {a b} q c => by rw [← ceI_i, q] at c; cases c
  unfold ccmp at hc
  cases c <;> dsimp only at hc <;> obtain ⟨x1, x2, a1, a2, s1, s2⟩ := cap_s hc <;> unfold dBr <;> dsimp only <;> refine ⟨fun g => ?_, fun g => ?_⟩
  · obtain ⟨K1, w, d⟩ := cneq_s k e f (ceI_i.mp g); exact ⟨K1, _, cbr_s a1 w, s1, d⟩
  · obtain ⟨K1, w, d⟩ := cnne_s k e f (neI g); exact ⟨K1, _, cbr_s a2 w, s2, d⟩
  · obtain ⟨K1, w, d⟩ := cnne_s k e f (neI (by simpa using g)); exact ⟨K1, _, cbr_s a1 w, s1, d⟩
  · obtain ⟨K1, w, d⟩ := cneq_s k e f (ceI_i.mp (by simpa using g)); exact ⟨K1, _, cbr_s a2 w, s2, d⟩
  · obtain ⟨K1, w, d⟩ := cnle_s k e f (o := o + 1) (r := r) (by have := cle_i.mp g; omega); exact ⟨K1, _, cbr_s a1 w, s1, d⟩
  · obtain ⟨K1, w, d⟩ := cnle_s k f e (o := r) (r := o) (nle' g); exact ⟨K1, _, cbr_s a2 w, s2, d⟩
  · obtain ⟨K1, w, d⟩ := cnle_s k f e (o := r) (r := o) (cle_i.mp g); exact ⟨K1, _, cbr_s a1 w, s1, d⟩
  · obtain ⟨K1, w, d⟩ := cnle_s k e f (o := o + 1) (r := r) (by have := nle g; omega); exact ⟨K1, _, cbr_s a2 w, s2, d⟩
  · obtain ⟨K1, w, d⟩ := cnle_s k f e (o := r + 1) (r := o) (by have := cle_i.mp g; omega); exact ⟨K1, _, cbr_s a1 w, s1, d⟩
  · obtain ⟨K1, w, d⟩ := cnle_s k e f (o := o) (r := r) (nle' g); exact ⟨K1, _, cbr_s a2 w, s2, d⟩
  · obtain ⟨K1, w, d⟩ := cnle_s k e f (o := o) (r := r) (cle_i.mp g); exact ⟨K1, _, cbr_s a1 w, s1, d⟩
  · obtain ⟨K1, w, d⟩ := cnle_s k f e (o := r + 1) (r := o) (by have := nle g; omega); exact ⟨K1, _, cbr_s a2 w, s2, d⟩
theorem cin_s {M l u : Int} (h : cin M l u = true) : -M ≤ l ∧ u ≤ M - 1 := by
  unfold cin at h
  rw [Bool.and_eq_true, cle_i, cle_i] at h
  exact h
/-- a number given to k: what is known of it -/
def dNm (σ : List Nat) (h : aH) (ρ : List Int) (rh : List Nat) (k : cK → Nat → Int → Option (List cEx)) (es : List cEx) (v : Int) : Prop :=
  ∃ K' z x ρ' y, k K' z x = some es ∧ dK σ h ρ' rh K' ∧ dX ρ ρ' ∧ ρ'[z]? = some y ∧ v = y + x
theorem dNm_new {σ : List Nat} {h : aH} {ρ : List Int} {rh : List Nat} {K : cK} (k : dK σ h ρ rh K) {l u v : Int} {f : cK → Nat → Int → Option (List cEx)} {es : List cEx} (h1 : l ≤ v) (h2 : v ≤ u) (e : f (cnew K l u) K.1.length 0 = some es) : dNm σ h ρ rh f es v :=
  ⟨_, _, _, ρ ++ [v], v, e, dK_new k h1 h2, dX_app _ _, kV_last k.1 v, by omega⟩
theorem cadd_s {σ : List Nat} {h : aH} {ρ : List Int} {rh : List Nat} {K : cK} (k : dK σ h ρ rh K) {p q : Nat} {o r y z M v : Int} (e : ρ[p]? = some y) (f : ρ[q]? = some z) {g : cK → Nat → Int → Option (List cEx)} {es : List cEx} (hc : cadd M K p o q r g = some es) (hv1 : -M ≤ v) (hv2 : v ≤ M - 1) (hv : -M ≤ y + o + (z + r) → y + o + (z + r) ≤ M - 1 → v = y + o + (z + r)) : dNm σ h ρ rh g es v := by
  have u1 := cub_s k e
  have u2 := cub_s k f
  have l1 := clb_s k e
  have l2 := clb_s k f
  unfold cadd at hc
  cases w : cin M (clb K p + o + (clb K q + r)) (cub K p + o + (cub K q + r)) with
  | false => rw [w] at hc; exact dNm_new k hv1 hv2 hc
  | true =>
    rw [w] at hc
    obtain ⟨w1, w2⟩ := cin_s w
    have hv := hv (by omega) (by omega)
    simp only [cond_true] at hc
    cases w0 : Nat.beq q 0 with
    | true =>
      rw [w0] at hc
      simp only [cond_true] at hc
      have := Nat.eq_of_beq_eq_true w0
      subst this
      rw [k.1.2.1] at f
      cases f
      exact ⟨K, p, _, ρ, y, hc, k, dX_refl _, e, by omega⟩
    | false =>
      rw [w0] at hc
      simp only [cond_false] at hc
      split at hc
      · rename_i t ht
        have hm := List.mem_of_find?_eq_some ht
        have hp := List.find?_some ht
        simp only [Bool.and_eq_true] at hp
        have e1 := Nat.eq_of_beq_eq_true hp.1
        have e2 := Nat.eq_of_beq_eq_true hp.2
        obtain ⟨a, b, ha, hb, hz⟩ := k.2.2.2.2.2.1 t hm
        rw [e1, e] at ha; cases ha
        rw [e2, f] at hb; cases hb
        have u3 := cub_s k hz
        have l3 := clb_s k hz
        refine ⟨_, _, _, ρ, y + z, hc, ⟨kV_set k.1 hz ?_ ?_, k.2⟩, dX_refl _, hz, by omega⟩
        · rcases cmx_or (a := clb K t.2.2) (b := clb K p + clb K q) with w | w <;> rw [w] <;> omega
        · rcases cmn_or (a := cub K t.2.2) (b := cub K p + cub K q) with w | w <;> rw [w] <;> omega
      · have k' := dK_new (z := y + z) (l := clb K p + clb K q) (u := cub K p + cub K q) k (by omega) (by omega)
        refine ⟨_, _, _, ρ ++ [y + z], y + z, hc, ⟨k'.1, k'.2.1, k'.2.2.1, k'.2.2.2.1, k'.2.2.2.2.1, ?_, k'.2.2.2.2.2.2⟩, dX_app _ _, kV_last k.1 _, by omega⟩
        intro t ht
        rcases List.mem_cons.mp ht with rfl | ht
        · exact ⟨y, z, dX_app _ _ _ _ e, dX_app _ _ _ _ f, kV_last k.1 _⟩
        · exact k'.2.2.2.2.2.1 t ht
theorem cadd'_s {σ : List Nat} {h : aH} {ρ : List Int} {rh : List Nat} {K : cK} (k : dK σ h ρ rh K) {p q : Nat} {o r y z M v : Int} (e : ρ[p]? = some y) (f : ρ[q]? = some z) {g : cK → Nat → Int → Option (List cEx)} {es : List cEx} (hc : cadd' M K p o q r g = some es) (hv1 : -M ≤ v) (hv2 : v ≤ M - 1) (hv : -M ≤ y + o + (z + r) → y + o + (z + r) ≤ M - 1 → v = y + o + (z + r)) : dNm σ h ρ rh g es v := by
  unfold cadd' at hc
  cases w : Nat.beq p 0 with
  | true =>
    rw [w] at hc
    exact cadd_s k f e hc hv1 hv2 (fun a b => by have := hv (by omega) (by omega); omega)
  | false =>
    rw [w] at hc
    exact cadd_s k e f hc hv1 hv2 hv
theorem csub_s {σ : List Nat} {h : aH} {ρ : List Int} {rh : List Nat} {K : cK} (k : dK σ h ρ rh K) {p q : Nat} {o r y z M v : Int} (e : ρ[p]? = some y) (f : ρ[q]? = some z) {g : cK → Nat → Int → Option (List cEx)} {es : List cEx} (hc : csub M K p o q r g = some es) (hv1 : -M ≤ v) (hv2 : v ≤ M - 1) (hv : -M ≤ y + o - (z + r) → y + o - (z + r) ≤ M - 1 → v = y + o - (z + r)) : dNm σ h ρ rh g es v := by
  have u1 := cub_s k e
  have u2 := cub_s k f
  have l1 := clb_s k e
  have l2 := clb_s k f
  unfold csub at hc
  cases w : (Nat.beq p q && cin M (o - r) (o - r)) with
  | true =>
    rw [w] at hc
    simp only [cond_true] at hc
    rw [Bool.and_eq_true] at w
    have := Nat.eq_of_beq_eq_true w.1
    subst this
    rw [e] at f; cases f
    obtain ⟨w1, w2⟩ := cin_s w.2
    have hv := hv (by omega) (by omega)
    exact ⟨K, 0, _, ρ, 0, hc, k, dX_refl _, k.1.2.1, by omega⟩
  | false =>
    rw [w] at hc
    simp only [cond_false] at hc
    cases w : cin M (clb K p + o - (cub K q + r)) (cub K p + o - (clb K q + r)) with
    | false => rw [w] at hc; exact dNm_new k hv1 hv2 hc
    | true =>
      rw [w] at hc
      obtain ⟨w1, w2⟩ := cin_s w
      have hv := hv (by omega) (by omega)
      simp only [cond_true] at hc
      cases w0 : Nat.beq q 0 with
      | true =>
        rw [w0] at hc
        have := Nat.eq_of_beq_eq_true w0
        subst this
        rw [k.1.2.1] at f
        cases f
        exact ⟨K, p, _, ρ, y, hc, k, dX_refl _, e, by omega⟩
      | false => rw [w0] at hc; exact dNm_new k (by omega) (by omega) hc

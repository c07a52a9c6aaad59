-- ===== every contract holds =====
theorem hG_le {X : aX} {k n : Nat} (h : hG X n) (hk : k ≤ n) : hG X k := fun j hj C hC => h j (by omega) C hC
theorem all_good {X : aX} (hX : X 0 = some (8, zab)) : hG X 302 := by
  have T0 := hT_0 hX
  have g20 := gd_20 hX (fun j hj => absurd hj (by omega))
  have g40 := gd_40 hX g20
  have g60 := gd_60 hX g40
  have g80 := gd_80 hX (fun _ => hand_62 hX) g60
  have g100 := gd_100 hX (fun _ => hand_80 hX (T0 6 (by decide) _ rfl)) g80
  have g120 := gd_120 hX g100
  have g140 := gd_140 hX g120
  have g160 := gd_160 hX (fun _ => hand_144) g140
  have g180 := gd_180 hX g160
  have g200 := gd_200 hX (fun g => hand_184 hX g T0) (fun g => hand_194 (T0 0 (by decide) _ rfl) (T0 3 (by decide) _ rfl) (g 184 (by decide) _ rfl)) g180
  have g220 := gd_220 hX (fun g => hand_206 hX (hT_x hX g) (g 71 (by decide) _ rfl)) (fun g => by
    have T := hT_x hX (hG_le g (by decide))
    exact hand_217 (T 206 (by decide) _ rfl) (T 208 (by decide) _ rfl) (T 209 (by decide) _ rfl) (g 71 (by decide) _ rfl)) g200
  have g240 := gd_240 hX g220
  have g260 := gd_260 hX g240
  have g280 := gd_280 hX (fun g => hand_274 hX (hG_le g (by decide)) T0) g260
  have g300 := gd_300 hX (fun _ => hand_280) (fun _ => hand_281) (fun _ => hand_284) (fun _ => hand_291) (fun _ => hand_293) g280
  exact gd_302 hX g300

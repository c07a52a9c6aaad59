-- ===== contracts that want no other contract =====
def cC314 : cC := (201, 0, [], ([(1, 1, .ofNat 0), (1, 2, .ofNat 0)], [], ([(.ofNat 0, .ofNat 0), (.negSucc 2147483647, .ofNat 2147483647), (.negSucc 2147483647, .ofNat 2147483647)], [], [], [], [], [], [])), [([], [(1, 1, .ofNat 0)], ([(.ofNat 0, .ofNat 0), (.ofNat 0, .ofNat 1)], [], [], [], [], [], []))], [])
def cC315 : cC := (267, 0, [], ([(1, 1, .ofNat 0), (1, 2, .ofNat 0), (1, 3, .ofNat 0)], [], ([(.ofNat 0, .ofNat 0), (.negSucc 2147483647, .ofNat 2147483647), (.negSucc 2147483647, .ofNat 2147483647), (.negSucc 2147483647, .ofNat 2147483647)], [], [], [], [], [], [])), [([], [(1, 1, .ofNat 0)], ([(.ofNat 0, .ofNat 0), (.negSucc 2147483647, .ofNat 2147483647)], [], [], [], [], [], []))], [])
def cC316 : cC := (255, 0, [], ([(1, 1, .ofNat 0)], [], ([(.ofNat 0, .ofNat 0), (.negSucc 2147483647, .ofNat 2147483647)], [], [], [], [], [], [])), [([], [(1, 1, .ofNat 0)], ([(.ofNat 0, .ofNat 0), (.negSucc 0, .ofNat 12)], [], [], [], [], [], []))], [])
def cC317 : cC := (332, 0, [(154, 0)], ([(3, 1000, .ofNat 0), (1, 1, .ofNat 0), (0, 0, .ofNat 0), (0, 0, .ofNat 0)], [], ([(.ofNat 0, .ofNat 0), (.ofNat 1000, .ofNat 1000)], [], [], [154], [], [], [])), [([], [], ([(.ofNat 0, .ofNat 0)], [], [], [], [], [], []))], [(5, ([(3, 1000, .ofNat 0), (1, 1, .ofNat 0), (1, 2, .ofNat 0), (1, 0, .ofNat 60)], [], ([(.ofNat 0, .ofNat 0), (.ofNat 1000, .ofNat 1000), (.ofNat 0, .ofNat 60)], [], [], [154], [], [], [])), (.ofNat 60, [(.negSucc 0, 2)]))])
def cC318 : cC := (271, 2, [], ([(3, 72, .ofNat 0), (1, 1, .ofNat 0), (1, 2, .ofNat 0), (0, 0, .ofNat 0), (0, 0, .ofNat 0)], [], ([(.ofNat 0, .ofNat 0), (.ofNat 0, .ofNat 149), (.ofNat 0, .ofNat 9)], [], [], [], [], [], [])), [([], [(1, 1, .ofNat 0)], ([(.ofNat 0, .ofNat 0), (.negSucc 2147483647, .ofNat 3649)], [], [], [], [], [], []))], [])
def cC319 : cC := (229, 0, [], ([(3, 72, .ofNat 0), (1, 1, .ofNat 0)], [], ([(.ofNat 0, .ofNat 0), (.ofNat 0, .ofNat 299)], [], [], [], [], [], [])), [([], [(1, 1, .ofNat 0)], ([(.ofNat 0, .ofNat 0), (.negSucc 5883515, .ofNat 5883516)], [], [], [], [], [], []))], [])
def cC320 : cC := (240, 0, [], ([(3, 72, .ofNat 0), (1, 1, .ofNat 0), (0, 0, .ofNat 0)], [], ([(.ofNat 0, .ofNat 0), (.ofNat 0, .ofNat 299)], [], [], [], [], [], [])), [([], [(1, 1, .ofNat 0)], ([(.ofNat 0, .ofNat 0), (.ofNat 0, .ofNat 2147483647)], [], [], [], [], [], []))], [])
def cC321 : cC := (273, 0, [], ([(3, 72, .ofNat 0), (1, 1, .ofNat 0), (1, 2, .ofNat 0), (1, 3, .ofNat 0)], [], ([(.ofNat 0, .ofNat 0), (.ofNat 0, .ofNat 149), (.ofNat 0, .ofNat 9), (.negSucc 2147483647, .ofNat 2147483647)], [], [], [], [], [], [])), [([], [(1, 1, .ofNat 0)], ([(.ofNat 0, .ofNat 0), (.ofNat 0, .ofNat 1)], [], [], [], [], [], []))], [])
def cC322 : cC := (212, 0, [], ([(1, 1, .ofNat 0), (1, 2, .ofNat 0)], [], ([(.ofNat 0, .ofNat 0), (.negSucc 2147483647, .ofNat 2147483647), (.negSucc 2147483647, .ofNat 2147483647)], [], [], [], [], [], [])), [([], [(1, 1, .ofNat 0)], ([(.ofNat 0, .ofNat 0), (.negSucc 2147483647, .ofNat 2147483647)], [], [], [], [], [], []))], [])
def cC323 : cC := (265, 0, [], ([(3, 72, .ofNat 0), (1, 1, .ofNat 0), (1, 2, .ofNat 0), (1, 3, .ofNat 0), (0, 0, .ofNat 0)], [], ([(.ofNat 0, .ofNat 0), (.ofNat 0, .ofNat 149), (.ofNat 0, .ofNat 9), (.ofNat 0, .ofNat 3649)], [], [], [], [], [], [])), [([], [(1, 1, .ofNat 0)], ([(.ofNat 0, .ofNat 0), (.negSucc 1, .ofNat 15)], [], [], [], [], [], []))], [(8, ([(3, 72, .ofNat 0), (1, 1, .ofNat 0), (1, 2, .ofNat 0), (1, 3, .ofNat 0), (1, 4, .negSucc 0)], [], ([(.ofNat 0, .ofNat 0), (.ofNat 0, .ofNat 149), (.ofNat 0, .ofNat 9), (.ofNat 0, .ofNat 3649), (.ofNat 0, .ofNat 16), (.ofNat 0, .ofNat 16)], [], [], [], [(72, 55, 1, 5, .ofNat 0)], [], [])), (.ofNat 0, [(.ofNat 1, 4)]))])
def cCT0 : List cC := [cC302, cC303, cC311, cC314, cC315, cC316, cC317, cC157, cC318, cC319, cC320, cC321, cC322, cC323]
def cCM0 : List (List Nat) := (List.replicate 333 []).set 270 [7]
theorem c0_302 : cchk cCT0 cCM0 3000 0 = true := by decide +kernel
theorem c0_303 : cchk cCT0 cCM0 3000 1 = true := by decide +kernel
theorem c0_311 : cchk cCT0 cCM0 3000 2 = true := by decide +kernel
theorem c0_314 : cchk cCT0 cCM0 3000 3 = true := by decide +kernel
theorem c0_315 : cchk cCT0 cCM0 3000 4 = true := by decide +kernel
theorem c0_316 : cchk cCT0 cCM0 3000 5 = true := by decide +kernel
theorem c0_317 : cchk cCT0 cCM0 3000 6 = true := by decide +kernel
theorem c0_157 : cchk cCT0 cCM0 3000 7 = true := by decide +kernel
theorem c0_318 : cchk cCT0 cCM0 3000 8 = true := by decide +kernel
theorem c0_319 : cchk cCT0 cCM0 3000 9 = true := by decide +kernel
theorem c0_320 : cchk cCT0 cCM0 3000 10 = true := by decide +kernel
theorem c0_321 : cchk cCT0 cCM0 3000 11 = true := by decide +kernel
theorem c0_322 : cchk cCT0 cCM0 3000 12 = true := by decide +kernel
theorem c0_323 : cchk cCT0 cCM0 3000 13 = true := by decide +kernel
theorem cCM0_t : cCMt cCT0 cCM0 = true := by decide +kernel
theorem hT_0 {X : aX} (hX : X 0 = some (8, zab)) : hT X cCT0 14 := by
  have g0 : hT X cCT0 0 := fun j hj => absurd hj (by omega)
  have g1 := tstep hX cCM0_t g0 c0_302
  have g2 := tstep hX cCM0_t g1 c0_303
  have g3 := tstep hX cCM0_t g2 c0_311
  have g4 := tstep hX cCM0_t g3 c0_314
  have g5 := tstep hX cCM0_t g4 c0_315
  have g6 := tstep hX cCM0_t g5 c0_316
  have g7 := tstep hX cCM0_t g6 c0_317
  have g8 := tstep hX cCM0_t g7 c0_157
  have g9 := tstep hX cCM0_t g8 c0_318
  have g10 := tstep hX cCM0_t g9 c0_319
  have g11 := tstep hX cCM0_t g10 c0_320
  have g12 := tstep hX cCM0_t g11 c0_321
  have g13 := tstep hX cCM0_t g12 c0_322
  have g14 := tstep hX cCM0_t g13 c0_323
  exact g14

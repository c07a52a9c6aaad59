-- ===== contracts that want no other contract =====
def cC314 : cC := (201, 0, [], ([(1, 1, .ofNat 0), (1, 2, .ofNat 0)], [], ([(.ofNat 0, .ofNat 0), (.negSucc 2147483647, .ofNat 2147483647), (.negSucc 2147483647, .ofNat 2147483647)], [], [], [], [], [], [])), [([], [(1, 1, .ofNat 0)], ([(.ofNat 0, .ofNat 0), (.ofNat 0, .ofNat 1)], [], [], [], [], [], []))], [])
def cC315 : cC := (267, 0, [], ([(1, 1, .ofNat 0), (1, 2, .ofNat 0), (1, 3, .ofNat 0)], [], ([(.ofNat 0, .ofNat 0), (.negSucc 2147483647, .ofNat 2147483647), (.negSucc 2147483647, .ofNat 2147483647), (.negSucc 2147483647, .ofNat 2147483647)], [], [], [], [], [], [])), [([], [(1, 1, .ofNat 0)], ([(.ofNat 0, .ofNat 0), (.negSucc 2147483647, .ofNat 2147483647)], [], [], [], [], [], []))], [])
def cC316 : cC := (255, 0, [], ([(1, 1, .ofNat 0)], [], ([(.ofNat 0, .ofNat 0), (.negSucc 2147483647, .ofNat 2147483647)], [], [], [], [], [], [])), [([], [(1, 1, .ofNat 0)], ([(.ofNat 0, .ofNat 0), (.negSucc 0, .ofNat 12)], [], [], [], [], [], []))], [])
def cC317 : cC := (332, 0, [(154, 0)], ([(3, 1000, .ofNat 0), (1, 1, .ofNat 0), (0, 0, .ofNat 0), (0, 0, .ofNat 0)], [], ([(.ofNat 0, .ofNat 0), (.ofNat 1000, .ofNat 1000)], [], [], [154], [], [], [])), [([], [], ([(.ofNat 0, .ofNat 0)], [], [], [], [], [], []))], [(5, ([(3, 1000, .ofNat 0), (1, 1, .ofNat 0), (1, 2, .ofNat 0), (1, 0, .ofNat 60)], [], ([(.ofNat 0, .ofNat 0), (.ofNat 1000, .ofNat 1000), (.ofNat 0, .ofNat 60)], [], [], [154], [], [], [])), (.ofNat 60, [(.negSucc 0, 2)]))])
def cCT0 : List cC := [cC302, cC303, cC311, cC314, cC315, cC316, cC317]
def cCM0 : List (List Nat) := List.replicate 333 []
theorem c0_302 : cchk cCT0 cCM0 3000 0 = true := by decide +kernel
theorem c0_303 : cchk cCT0 cCM0 3000 1 = true := by decide +kernel
theorem c0_311 : cchk cCT0 cCM0 3000 2 = true := by decide +kernel
theorem c0_314 : cchk cCT0 cCM0 3000 3 = true := by decide +kernel
theorem c0_315 : cchk cCT0 cCM0 3000 4 = true := by decide +kernel
theorem c0_316 : cchk cCT0 cCM0 3000 5 = true := by decide +kernel
theorem c0_317 : cchk cCT0 cCM0 3000 6 = true := by decide +kernel
theorem cCM0_t : cCMt cCT0 cCM0 = true := by decide +kernel
theorem hT_0 {X : aX} (hX : X 0 = some (8, zab)) : hT X cCT0 7 := by
  have g0 : hT X cCT0 0 := fun j hj => absurd hj (by omega)
  have g1 := tstep hX cCM0_t g0 c0_302
  have g2 := tstep hX cCM0_t g1 c0_303
  have g3 := tstep hX cCM0_t g2 c0_311
  have g4 := tstep hX cCM0_t g3 c0_314
  have g5 := tstep hX cCM0_t g4 c0_315
  have g6 := tstep hX cCM0_t g5 c0_316
  have g7 := tstep hX cCM0_t g6 c0_317
  exact g7

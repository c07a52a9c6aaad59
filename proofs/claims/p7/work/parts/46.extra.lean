-- ===== contracts that the hand proofs alone want: behind the first 206 =====
def cCTx : List cC := cCT.take 206 ++ [cC302, cC303, cC304, cC305, cC306, cC307, cC308, cC309, cC310, cC311]
def cCMx : List (List Nat) := ((((cCM.map (fun l => l.filter (fun j => Nat.blt j 206))).set 282 [210]).set 285 [212]).set 291 [208]).set 211 [160]
theorem cx_302 : cchk cCTx cCMx 3000 206 = true := by decide +kernel
theorem cx_303 : cchk cCTx cCMx 3000 207 = true := by decide +kernel
theorem cx_304 : cchk cCTx cCMx 3000 208 = true := by decide +kernel
theorem cx_305 : cchk cCTx cCMx 3000 209 = true := by decide +kernel
theorem cx_306 : cchk cCTx cCMx 3000 210 = true := by decide +kernel
theorem cx_307 : cchk cCTx cCMx 3000 211 = true := by decide +kernel
theorem cx_308 : cchk cCTx cCMx 3000 212 = true := by decide +kernel
theorem cx_309 : cchk cCTx cCMx 3000 213 = true := by decide +kernel
theorem cx_310 : cchk cCTx cCMx 3000 214 = true := by decide +kernel
theorem cx_311 : cchk cCTx cCMx 3000 215 = true := by decide +kernel

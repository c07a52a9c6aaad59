-- trial
theorem ct_0 : cchk cCT cCM 3000 0 = true := by decide +kernel
theorem ct_1 : cchk cCT cCM 3000 1 = true := by decide +kernel
theorem ct_2 : cchk cCT cCM 3000 2 = true := by decide +kernel
theorem ct_3 : cchk cCT cCM 3000 3 = true := by decide +kernel
theorem ct_4 : cchk cCT cCM 3000 4 = true := by decide +kernel
theorem ct_5 : cchk cCT cCM 3000 5 = true := by decide +kernel

-- ===== the law on one call (by program) =====
theorem ce {X : aX} {a b d : Nat} {M : aM} {pc : Nat} {L : aL} {r : List Value} {h : aH} {o : Option aR} (q : a = b) (e : arun X a d M pc L r h = o) : arun X b d M pc L r h = o := q ▸ e
set_option maxRecDepth 20000 in
theorem lc_0 {X : aX} {xs : Nat → Int32} (hX : X 1 = some (6, xs)) (hk : xs 0 &&& 63 = 0) : ∃ h2 : aH, (∀ n d : Nat, arun X (n + 1002000) (d + 30) zM333 18 [some (.retAddr 1), some (.ref 0), some (.ref 72), some (.int 0)] [] zH0 = some (some (.int 1), h2)) ∧ h2.1.length ≤ 600000 ∧ h2.2 ≤ 7302250 := by
  obtain ⟨v, h1, h2, e1, e2, g72, s1, s2⟩ := pc_0 (xs 1)
  refine ⟨h2, fun n d => ?_, s1, s2⟩
  refine (r_iloadn f333_18 rfl).trans ?_
  refine (r_aloadnX f333_19 rfl).trans ?_
  refine (r_xlen (v := 6) f333_20 hX rfl).trans ?_
  refine (r_bipush (v := 6) f333_21 rfl).trans ?_
  refine (r_isub (v := 0) f333_23 (by decide)).trans ?_
  refine (r_icmp_gt_f f333_24 (by decide)).trans ?_
  refine (r_aloadnX f333_27 rfl).trans ?_
  refine (r_iloadn f333_28 rfl).trans ?_
  refine (r_xld (v := (xs 0)) f333_29 hX (by decide) rfl).trans ?_
  refine (r_bipush (v := 63) f333_30 rfl).trans ?_
  refine (r_iand (v := 0) f333_32 hk).trans ?_
  refine (r_tsw f333_33).trans ?_
  refine (asw_t (by decide)).trans ?_
  refine (r_aloadn f333_252 rfl).trans ?_
  refine (r_aloadnX f333_253 rfl).trans ?_
  refine (r_iloadn f333_254 rfl).trans ?_
  refine (r_iconst (v := 1) f333_255 rfl).trans ?_
  refine (r_iadd (v := 1) f333_256 (by decide)).trans ?_
  refine (r_xld (v := (xs 1)) f333_257 hX (by decide) rfl).trans ?_
  refine (r_virt (as := [.int (xs 1)]) (v := (some (.int v))) (h1 := h1) f333_258 zh0 zg144 rfl rfl rfl rfl rfl rfl (ce (by omega) (e1 X (n + 1981) (d + 9)))).trans ?_
  refine (r_aloadn f333_261 rfl).trans ?_
  refine (r_aloadnX f333_262 rfl).trans ?_
  refine (r_iloadn f333_263 rfl).trans ?_
  refine (r_iconst (v := 1) f333_264 rfl).trans ?_
  refine (r_iadd (v := 1) f333_265 (by decide)).trans ?_
  refine (r_xld (v := (xs 1)) f333_266 hX (by decide) rfl).trans ?_
  refine (r_virt (as := [.int (xs 1)]) (v := (some (.int v))) (h1 := h2) f333_267 g72 zg199 rfl rfl rfl rfl rfl rfl (ce (by omega) (e2 X (n + 1974) (d + 9)))).trans ?_
  refine (r_icmp_eq_t f333_270 rfl).trans ?_
  refine (r_iinc (v := 6) (L' := [some (.retAddr 1), some (.ref 0), some (.ref 72), some (.int 6)]) f333_2076 rfl rfl rfl).trans ?_
  refine (r_goto f333_2079).trans ?_
  refine (r_iloadn f333_18 rfl).trans ?_
  refine (r_aloadnX f333_19 rfl).trans ?_
  refine (r_xlen (v := 6) f333_20 hX rfl).trans ?_
  refine (r_bipush (v := 6) f333_21 rfl).trans ?_
  refine (r_isub (v := 0) f333_23 (by decide)).trans ?_
  refine (r_icmp_gt_t f333_24 (by decide)).trans ?_
  refine (r_iconst (v := 1) f333_2082 rfl).trans ?_
  exact r_zreturn f333_2083 rfl (by decide)
set_option maxRecDepth 20000 in
theorem lc_1 {X : aX} {xs : Nat → Int32} (hX : X 1 = some (6, xs)) (hk : xs 0 &&& 63 = 1) : ∃ h2 : aH, (∀ n d : Nat, arun X (n + 1002000) (d + 30) zM333 18 [some (.retAddr 1), some (.ref 0), some (.ref 72), some (.int 0)] [] zH0 = some (some (.int 1), h2)) ∧ h2.1.length ≤ 600000 ∧ h2.2 ≤ 7302250 := by
  obtain ⟨v, h1, h2, e1, e2, g72, s1, s2⟩ := pc_1 
  refine ⟨h2, fun n d => ?_, s1, s2⟩
  refine (r_iloadn f333_18 rfl).trans ?_
  refine (r_aloadnX f333_19 rfl).trans ?_
  refine (r_xlen (v := 6) f333_20 hX rfl).trans ?_
  refine (r_bipush (v := 6) f333_21 rfl).trans ?_
  refine (r_isub (v := 0) f333_23 (by decide)).trans ?_
  refine (r_icmp_gt_f f333_24 (by decide)).trans ?_
  refine (r_aloadnX f333_27 rfl).trans ?_
  refine (r_iloadn f333_28 rfl).trans ?_
  refine (r_xld (v := (xs 0)) f333_29 hX (by decide) rfl).trans ?_
  refine (r_bipush (v := 63) f333_30 rfl).trans ?_
  refine (r_iand (v := 1) f333_32 hk).trans ?_
  refine (r_tsw f333_33).trans ?_
  refine (asw_f (by decide)).trans ?_
  refine (asw_t (by decide)).trans ?_
  refine (r_aloadn f333_275 rfl).trans ?_
  refine (r_virt (as := []) (v := (some (.int v))) (h1 := h1) f333_276 zh0 zg145 rfl rfl rfl rfl rfl rfl (ce (by omega) (e1 X (n + 1986) (d + 9)))).trans ?_
  refine (r_aloadn f333_279 rfl).trans ?_
  refine (r_virt (as := []) (v := (some (.int v))) (h1 := h2) f333_280 g72 zg205 rfl rfl rfl rfl rfl rfl (ce (by omega) (e2 X (n + 1984) (d + 9)))).trans ?_
  refine (r_icmp_eq_t f333_283 rfl).trans ?_
  refine (r_iinc (v := 6) (L' := [some (.retAddr 1), some (.ref 0), some (.ref 72), some (.int 6)]) f333_2076 rfl rfl rfl).trans ?_
  refine (r_goto f333_2079).trans ?_
  refine (r_iloadn f333_18 rfl).trans ?_
  refine (r_aloadnX f333_19 rfl).trans ?_
  refine (r_xlen (v := 6) f333_20 hX rfl).trans ?_
  refine (r_bipush (v := 6) f333_21 rfl).trans ?_
  refine (r_isub (v := 0) f333_23 (by decide)).trans ?_
  refine (r_icmp_gt_t f333_24 (by decide)).trans ?_
  refine (r_iconst (v := 1) f333_2082 rfl).trans ?_
  exact r_zreturn f333_2083 rfl (by decide)
set_option maxRecDepth 20000 in
theorem lc_2 {X : aX} {xs : Nat → Int32} (hX : X 1 = some (6, xs)) (hk : xs 0 &&& 63 = 2) : ∃ h2 : aH, (∀ n d : Nat, arun X (n + 1002000) (d + 30) zM333 18 [some (.retAddr 1), some (.ref 0), some (.ref 72), some (.int 0)] [] zH0 = some (some (.int 1), h2)) ∧ h2.1.length ≤ 600000 ∧ h2.2 ≤ 7302250 := by
  obtain ⟨v, h1, h2, e1, e2, g72, s1, s2⟩ := pc_2 (xs 1) (xs 2)
  refine ⟨h2, fun n d => ?_, s1, s2⟩
  refine (r_iloadn f333_18 rfl).trans ?_
  refine (r_aloadnX f333_19 rfl).trans ?_
  refine (r_xlen (v := 6) f333_20 hX rfl).trans ?_
  refine (r_bipush (v := 6) f333_21 rfl).trans ?_
  refine (r_isub (v := 0) f333_23 (by decide)).trans ?_
  refine (r_icmp_gt_f f333_24 (by decide)).trans ?_
  refine (r_aloadnX f333_27 rfl).trans ?_
  refine (r_iloadn f333_28 rfl).trans ?_
  refine (r_xld (v := (xs 0)) f333_29 hX (by decide) rfl).trans ?_
  refine (r_bipush (v := 63) f333_30 rfl).trans ?_
  refine (r_iand (v := 2) f333_32 hk).trans ?_
  refine (r_tsw f333_33).trans ?_
  refine (asw_f (by decide)).trans ?_
  refine (asw_f (by decide)).trans ?_
  refine (asw_t (by decide)).trans ?_
  refine (r_aloadn f333_288 rfl).trans ?_
  refine (r_aloadnX f333_289 rfl).trans ?_
  refine (r_iloadn f333_290 rfl).trans ?_
  refine (r_iconst (v := 1) f333_291 rfl).trans ?_
  refine (r_iadd (v := 1) f333_292 (by decide)).trans ?_
  refine (r_xld (v := (xs 1)) f333_293 hX (by decide) rfl).trans ?_
  refine (r_aloadnX f333_294 rfl).trans ?_
  refine (r_iloadn f333_295 rfl).trans ?_
  refine (r_iconst (v := 2) f333_296 rfl).trans ?_
  refine (r_iadd (v := 2) f333_297 (by decide)).trans ?_
  refine (r_xld (v := (xs 2)) f333_298 hX (by decide) rfl).trans ?_
  refine (r_virt (as := [.int (xs 1), .int (xs 2)]) (v := (some (.int v))) (h1 := h1) f333_299 zh0 zg146 rfl rfl rfl rfl rfl rfl (ce (by omega) (e1 X (n + 1976) (d + 9)))).trans ?_
  refine (r_aloadn f333_302 rfl).trans ?_
  refine (r_aloadnX f333_303 rfl).trans ?_
  refine (r_iloadn f333_304 rfl).trans ?_
  refine (r_iconst (v := 1) f333_305 rfl).trans ?_
  refine (r_iadd (v := 1) f333_306 (by decide)).trans ?_
  refine (r_xld (v := (xs 1)) f333_307 hX (by decide) rfl).trans ?_
  refine (r_aloadnX f333_308 rfl).trans ?_
  refine (r_iloadn f333_309 rfl).trans ?_
  refine (r_iconst (v := 2) f333_310 rfl).trans ?_
  refine (r_iadd (v := 2) f333_311 (by decide)).trans ?_
  refine (r_xld (v := (xs 2)) f333_312 hX (by decide) rfl).trans ?_
  refine (r_virt (as := [.int (xs 1), .int (xs 2)]) (v := (some (.int v))) (h1 := h2) f333_313 g72 zg207 rfl rfl rfl rfl rfl rfl (ce (by omega) (e2 X (n + 1964) (d + 9)))).trans ?_
  refine (r_icmp_eq_t f333_316 rfl).trans ?_
  refine (r_iinc (v := 6) (L' := [some (.retAddr 1), some (.ref 0), some (.ref 72), some (.int 6)]) f333_2076 rfl rfl rfl).trans ?_
  refine (r_goto f333_2079).trans ?_
  refine (r_iloadn f333_18 rfl).trans ?_
  refine (r_aloadnX f333_19 rfl).trans ?_
  refine (r_xlen (v := 6) f333_20 hX rfl).trans ?_
  refine (r_bipush (v := 6) f333_21 rfl).trans ?_
  refine (r_isub (v := 0) f333_23 (by decide)).trans ?_
  refine (r_icmp_gt_t f333_24 (by decide)).trans ?_
  refine (r_iconst (v := 1) f333_2082 rfl).trans ?_
  exact r_zreturn f333_2083 rfl (by decide)
set_option maxRecDepth 20000 in
theorem lc_3 {X : aX} {xs : Nat → Int32} (hX : X 1 = some (6, xs)) (hk : xs 0 &&& 63 = 3) : ∃ h2 : aH, (∀ n d : Nat, arun X (n + 1002000) (d + 30) zM333 18 [some (.retAddr 1), some (.ref 0), some (.ref 72), some (.int 0)] [] zH0 = some (some (.int 1), h2)) ∧ h2.1.length ≤ 600000 ∧ h2.2 ≤ 7302250 := by
  obtain ⟨v, h1, h2, e1, e2, g72, s1, s2⟩ := pc_3 (xs 1) (xs 2)
  refine ⟨h2, fun n d => ?_, s1, s2⟩
  refine (r_iloadn f333_18 rfl).trans ?_
  refine (r_aloadnX f333_19 rfl).trans ?_
  refine (r_xlen (v := 6) f333_20 hX rfl).trans ?_
  refine (r_bipush (v := 6) f333_21 rfl).trans ?_
  refine (r_isub (v := 0) f333_23 (by decide)).trans ?_
  refine (r_icmp_gt_f f333_24 (by decide)).trans ?_
  refine (r_aloadnX f333_27 rfl).trans ?_
  refine (r_iloadn f333_28 rfl).trans ?_
  refine (r_xld (v := (xs 0)) f333_29 hX (by decide) rfl).trans ?_
  refine (r_bipush (v := 63) f333_30 rfl).trans ?_
  refine (r_iand (v := 3) f333_32 hk).trans ?_
  refine (r_tsw f333_33).trans ?_
  refine (asw_f (by decide)).trans ?_
  refine (asw_f (by decide)).trans ?_
  refine (asw_f (by decide)).trans ?_
  refine (asw_t (by decide)).trans ?_
  refine (r_aloadn f333_321 rfl).trans ?_
  refine (r_aloadnX f333_322 rfl).trans ?_
  refine (r_iloadn f333_323 rfl).trans ?_
  refine (r_iconst (v := 1) f333_324 rfl).trans ?_
  refine (r_iadd (v := 1) f333_325 (by decide)).trans ?_
  refine (r_xld (v := (xs 1)) f333_326 hX (by decide) rfl).trans ?_
  refine (r_aloadnX f333_327 rfl).trans ?_
  refine (r_iloadn f333_328 rfl).trans ?_
  refine (r_iconst (v := 2) f333_329 rfl).trans ?_
  refine (r_iadd (v := 2) f333_330 (by decide)).trans ?_
  refine (r_xld (v := (xs 2)) f333_331 hX (by decide) rfl).trans ?_
  refine (r_virt (as := [.int (xs 1), .int (xs 2)]) (v := (some (.int v))) (h1 := h1) f333_332 zh0 zg147 rfl rfl rfl rfl rfl rfl (ce (by omega) (e1 X (n + 1976) (d + 9)))).trans ?_
  refine (r_aloadn f333_335 rfl).trans ?_
  refine (r_aloadnX f333_336 rfl).trans ?_
  refine (r_iloadn f333_337 rfl).trans ?_
  refine (r_iconst (v := 1) f333_338 rfl).trans ?_
  refine (r_iadd (v := 1) f333_339 (by decide)).trans ?_
  refine (r_xld (v := (xs 1)) f333_340 hX (by decide) rfl).trans ?_
  refine (r_aloadnX f333_341 rfl).trans ?_
  refine (r_iloadn f333_342 rfl).trans ?_
  refine (r_iconst (v := 2) f333_343 rfl).trans ?_
  refine (r_iadd (v := 2) f333_344 (by decide)).trans ?_
  refine (r_xld (v := (xs 2)) f333_345 hX (by decide) rfl).trans ?_
  refine (r_virt (as := [.int (xs 1), .int (xs 2)]) (v := (some (.int v))) (h1 := h2) f333_346 g72 zg209 rfl rfl rfl rfl rfl rfl (ce (by omega) (e2 X (n + 1964) (d + 9)))).trans ?_
  refine (r_icmp_eq_t f333_349 rfl).trans ?_
  refine (r_iinc (v := 6) (L' := [some (.retAddr 1), some (.ref 0), some (.ref 72), some (.int 6)]) f333_2076 rfl rfl rfl).trans ?_
  refine (r_goto f333_2079).trans ?_
  refine (r_iloadn f333_18 rfl).trans ?_
  refine (r_aloadnX f333_19 rfl).trans ?_
  refine (r_xlen (v := 6) f333_20 hX rfl).trans ?_
  refine (r_bipush (v := 6) f333_21 rfl).trans ?_
  refine (r_isub (v := 0) f333_23 (by decide)).trans ?_
  refine (r_icmp_gt_t f333_24 (by decide)).trans ?_
  refine (r_iconst (v := 1) f333_2082 rfl).trans ?_
  exact r_zreturn f333_2083 rfl (by decide)
set_option maxRecDepth 20000 in
theorem lc_4 {X : aX} {xs : Nat → Int32} (hX : X 1 = some (6, xs)) (hk : xs 0 &&& 63 = 4) : ∃ h2 : aH, (∀ n d : Nat, arun X (n + 1002000) (d + 30) zM333 18 [some (.retAddr 1), some (.ref 0), some (.ref 72), some (.int 0)] [] zH0 = some (some (.int 1), h2)) ∧ h2.1.length ≤ 600000 ∧ h2.2 ≤ 7302250 := by
  obtain ⟨v, h1, h2, e1, e2, g72, s1, s2⟩ := pc_4 
  refine ⟨h2, fun n d => ?_, s1, s2⟩
  refine (r_iloadn f333_18 rfl).trans ?_
  refine (r_aloadnX f333_19 rfl).trans ?_
  refine (r_xlen (v := 6) f333_20 hX rfl).trans ?_
  refine (r_bipush (v := 6) f333_21 rfl).trans ?_
  refine (r_isub (v := 0) f333_23 (by decide)).trans ?_
  refine (r_icmp_gt_f f333_24 (by decide)).trans ?_
  refine (r_aloadnX f333_27 rfl).trans ?_
  refine (r_iloadn f333_28 rfl).trans ?_
  refine (r_xld (v := (xs 0)) f333_29 hX (by decide) rfl).trans ?_
  refine (r_bipush (v := 63) f333_30 rfl).trans ?_
  refine (r_iand (v := 4) f333_32 hk).trans ?_
  refine (r_tsw f333_33).trans ?_
  refine (asw_f (by decide)).trans ?_
  refine (asw_f (by decide)).trans ?_
  refine (asw_f (by decide)).trans ?_
  refine (asw_f (by decide)).trans ?_
  refine (asw_t (by decide)).trans ?_
  refine (r_aloadn f333_354 rfl).trans ?_
  refine (r_virt (as := []) (v := (some (.int v))) (h1 := h1) f333_355 zh0 zg148 rfl rfl rfl rfl rfl rfl (ce (by omega) (e1 X (n + 1986) (d + 9)))).trans ?_
  refine (r_aloadn f333_358 rfl).trans ?_
  refine (r_virt (as := []) (v := (some (.int v))) (h1 := h2) f333_359 g72 zg210 rfl rfl rfl rfl rfl rfl (ce (by omega) (e2 X (n + 1984) (d + 9)))).trans ?_
  refine (r_icmp_eq_t f333_362 rfl).trans ?_
  refine (r_iinc (v := 6) (L' := [some (.retAddr 1), some (.ref 0), some (.ref 72), some (.int 6)]) f333_2076 rfl rfl rfl).trans ?_
  refine (r_goto f333_2079).trans ?_
  refine (r_iloadn f333_18 rfl).trans ?_
  refine (r_aloadnX f333_19 rfl).trans ?_
  refine (r_xlen (v := 6) f333_20 hX rfl).trans ?_
  refine (r_bipush (v := 6) f333_21 rfl).trans ?_
  refine (r_isub (v := 0) f333_23 (by decide)).trans ?_
  refine (r_icmp_gt_t f333_24 (by decide)).trans ?_
  refine (r_iconst (v := 1) f333_2082 rfl).trans ?_
  exact r_zreturn f333_2083 rfl (by decide)
set_option maxRecDepth 20000 in
theorem lc_5 {X : aX} {xs : Nat → Int32} (hX : X 1 = some (6, xs)) (hk : xs 0 &&& 63 = 5) : ∃ h2 : aH, (∀ n d : Nat, arun X (n + 1002000) (d + 30) zM333 18 [some (.retAddr 1), some (.ref 0), some (.ref 72), some (.int 0)] [] zH0 = some (some (.int 1), h2)) ∧ h2.1.length ≤ 600000 ∧ h2.2 ≤ 7302250 := by
  obtain ⟨v, h1, h2, e1, e2, g72, s1, s2⟩ := pc_5 
  refine ⟨h2, fun n d => ?_, s1, s2⟩
  refine (r_iloadn f333_18 rfl).trans ?_
  refine (r_aloadnX f333_19 rfl).trans ?_
  refine (r_xlen (v := 6) f333_20 hX rfl).trans ?_
  refine (r_bipush (v := 6) f333_21 rfl).trans ?_
  refine (r_isub (v := 0) f333_23 (by decide)).trans ?_
  refine (r_icmp_gt_f f333_24 (by decide)).trans ?_
  refine (r_aloadnX f333_27 rfl).trans ?_
  refine (r_iloadn f333_28 rfl).trans ?_
  refine (r_xld (v := (xs 0)) f333_29 hX (by decide) rfl).trans ?_
  refine (r_bipush (v := 63) f333_30 rfl).trans ?_
  refine (r_iand (v := 5) f333_32 hk).trans ?_
  refine (r_tsw f333_33).trans ?_
  refine (asw_f (by decide)).trans ?_
  refine (asw_f (by decide)).trans ?_
  refine (asw_f (by decide)).trans ?_
  refine (asw_f (by decide)).trans ?_
  refine (asw_f (by decide)).trans ?_
  refine (asw_t (by decide)).trans ?_
  refine (r_aloadn f333_367 rfl).trans ?_
  refine (r_virt (as := []) (v := (some (.int v))) (h1 := h1) f333_368 zh0 zg149 rfl rfl rfl rfl rfl rfl (ce (by omega) (e1 X (n + 1986) (d + 9)))).trans ?_
  refine (r_aloadn f333_371 rfl).trans ?_
  refine (r_virt (as := []) (v := (some (.int v))) (h1 := h2) f333_372 g72 zg220 rfl rfl rfl rfl rfl rfl (ce (by omega) (e2 X (n + 1984) (d + 9)))).trans ?_
  refine (r_icmp_eq_t f333_375 rfl).trans ?_
  refine (r_iinc (v := 6) (L' := [some (.retAddr 1), some (.ref 0), some (.ref 72), some (.int 6)]) f333_2076 rfl rfl rfl).trans ?_
  refine (r_goto f333_2079).trans ?_
  refine (r_iloadn f333_18 rfl).trans ?_
  refine (r_aloadnX f333_19 rfl).trans ?_
  refine (r_xlen (v := 6) f333_20 hX rfl).trans ?_
  refine (r_bipush (v := 6) f333_21 rfl).trans ?_
  refine (r_isub (v := 0) f333_23 (by decide)).trans ?_
  refine (r_icmp_gt_t f333_24 (by decide)).trans ?_
  refine (r_iconst (v := 1) f333_2082 rfl).trans ?_
  exact r_zreturn f333_2083 rfl (by decide)
set_option maxRecDepth 20000 in
theorem lc_6 {X : aX} {xs : Nat → Int32} (hX : X 1 = some (6, xs)) (hk : xs 0 &&& 63 = 6) : ∃ h2 : aH, (∀ n d : Nat, arun X (n + 1002000) (d + 30) zM333 18 [some (.retAddr 1), some (.ref 0), some (.ref 72), some (.int 0)] [] zH0 = some (some (.int 1), h2)) ∧ h2.1.length ≤ 600000 ∧ h2.2 ≤ 7302250 := by
  obtain ⟨v, h1, h2, e1, e2, g72, s1, s2⟩ := pc_6 (xs 1) (xs 2)
  refine ⟨h2, fun n d => ?_, s1, s2⟩
  refine (r_iloadn f333_18 rfl).trans ?_
  refine (r_aloadnX f333_19 rfl).trans ?_
  refine (r_xlen (v := 6) f333_20 hX rfl).trans ?_
  refine (r_bipush (v := 6) f333_21 rfl).trans ?_
  refine (r_isub (v := 0) f333_23 (by decide)).trans ?_
  refine (r_icmp_gt_f f333_24 (by decide)).trans ?_
  refine (r_aloadnX f333_27 rfl).trans ?_
  refine (r_iloadn f333_28 rfl).trans ?_
  refine (r_xld (v := (xs 0)) f333_29 hX (by decide) rfl).trans ?_
  refine (r_bipush (v := 63) f333_30 rfl).trans ?_
  refine (r_iand (v := 6) f333_32 hk).trans ?_
  refine (r_tsw f333_33).trans ?_
  refine (asw_f (by decide)).trans ?_
  refine (asw_f (by decide)).trans ?_
  refine (asw_f (by decide)).trans ?_
  refine (asw_f (by decide)).trans ?_
  refine (asw_f (by decide)).trans ?_
  refine (asw_f (by decide)).trans ?_
  refine (asw_t (by decide)).trans ?_
  refine (r_aloadn f333_380 rfl).trans ?_
  refine (r_aloadnX f333_381 rfl).trans ?_
  refine (r_iloadn f333_382 rfl).trans ?_
  refine (r_iconst (v := 1) f333_383 rfl).trans ?_
  refine (r_iadd (v := 1) f333_384 (by decide)).trans ?_
  refine (r_xld (v := (xs 1)) f333_385 hX (by decide) rfl).trans ?_
  refine (r_aloadnX f333_386 rfl).trans ?_
  refine (r_iloadn f333_387 rfl).trans ?_
  refine (r_iconst (v := 2) f333_388 rfl).trans ?_
  refine (r_iadd (v := 2) f333_389 (by decide)).trans ?_
  refine (r_xld (v := (xs 2)) f333_390 hX (by decide) rfl).trans ?_
  refine (r_virt (as := [.int (xs 1), .int (xs 2)]) (v := (some (.int v))) (h1 := h1) f333_391 zh0 zg150 rfl rfl rfl rfl rfl rfl (ce (by omega) (e1 X (n + 1976) (d + 9)))).trans ?_
  refine (r_aloadn f333_394 rfl).trans ?_
  refine (r_aloadnX f333_395 rfl).trans ?_
  refine (r_iloadn f333_396 rfl).trans ?_
  refine (r_iconst (v := 1) f333_397 rfl).trans ?_
  refine (r_iadd (v := 1) f333_398 (by decide)).trans ?_
  refine (r_xld (v := (xs 1)) f333_399 hX (by decide) rfl).trans ?_
  refine (r_aloadnX f333_400 rfl).trans ?_
  refine (r_iloadn f333_401 rfl).trans ?_
  refine (r_iconst (v := 2) f333_402 rfl).trans ?_
  refine (r_iadd (v := 2) f333_403 (by decide)).trans ?_
  refine (r_xld (v := (xs 2)) f333_404 hX (by decide) rfl).trans ?_
  refine (r_virt (as := [.int (xs 1), .int (xs 2)]) (v := (some (.int v))) (h1 := h2) f333_405 g72 zg222 rfl rfl rfl rfl rfl rfl (ce (by omega) (e2 X (n + 1964) (d + 9)))).trans ?_
  refine (r_icmp_eq_t f333_408 rfl).trans ?_
  refine (r_iinc (v := 6) (L' := [some (.retAddr 1), some (.ref 0), some (.ref 72), some (.int 6)]) f333_2076 rfl rfl rfl).trans ?_
  refine (r_goto f333_2079).trans ?_
  refine (r_iloadn f333_18 rfl).trans ?_
  refine (r_aloadnX f333_19 rfl).trans ?_
  refine (r_xlen (v := 6) f333_20 hX rfl).trans ?_
  refine (r_bipush (v := 6) f333_21 rfl).trans ?_
  refine (r_isub (v := 0) f333_23 (by decide)).trans ?_
  refine (r_icmp_gt_t f333_24 (by decide)).trans ?_
  refine (r_iconst (v := 1) f333_2082 rfl).trans ?_
  exact r_zreturn f333_2083 rfl (by decide)
set_option maxRecDepth 20000 in
theorem lc_7 {X : aX} {xs : Nat → Int32} (hX : X 1 = some (6, xs)) (hk : xs 0 &&& 63 = 7) : ∃ h2 : aH, (∀ n d : Nat, arun X (n + 1002000) (d + 30) zM333 18 [some (.retAddr 1), some (.ref 0), some (.ref 72), some (.int 0)] [] zH0 = some (some (.int 1), h2)) ∧ h2.1.length ≤ 600000 ∧ h2.2 ≤ 7302250 := by
  obtain ⟨v, h1, h2, e1, e2, g72, s1, s2⟩ := pc_7 (xs 1)
  refine ⟨h2, fun n d => ?_, s1, s2⟩
  refine (r_iloadn f333_18 rfl).trans ?_
  refine (r_aloadnX f333_19 rfl).trans ?_
  refine (r_xlen (v := 6) f333_20 hX rfl).trans ?_
  refine (r_bipush (v := 6) f333_21 rfl).trans ?_
  refine (r_isub (v := 0) f333_23 (by decide)).trans ?_
  refine (r_icmp_gt_f f333_24 (by decide)).trans ?_
  refine (r_aloadnX f333_27 rfl).trans ?_
  refine (r_iloadn f333_28 rfl).trans ?_
  refine (r_xld (v := (xs 0)) f333_29 hX (by decide) rfl).trans ?_
  refine (r_bipush (v := 63) f333_30 rfl).trans ?_
  refine (r_iand (v := 7) f333_32 hk).trans ?_
  refine (r_tsw f333_33).trans ?_
  refine (asw_f (by decide)).trans ?_
  refine (asw_f (by decide)).trans ?_
  refine (asw_f (by decide)).trans ?_
  refine (asw_f (by decide)).trans ?_
  refine (asw_f (by decide)).trans ?_
  refine (asw_f (by decide)).trans ?_
  refine (asw_f (by decide)).trans ?_
  refine (asw_t (by decide)).trans ?_
  refine (r_aloadn f333_413 rfl).trans ?_
  refine (r_aloadnX f333_414 rfl).trans ?_
  refine (r_iloadn f333_415 rfl).trans ?_
  refine (r_iconst (v := 1) f333_416 rfl).trans ?_
  refine (r_iadd (v := 1) f333_417 (by decide)).trans ?_
  refine (r_xld (v := (xs 1)) f333_418 hX (by decide) rfl).trans ?_
  refine (r_virt (as := [.int (xs 1)]) (v := (some (.int v))) (h1 := h1) f333_419 zh0 zg151 rfl rfl rfl rfl rfl rfl (ce (by omega) (e1 X (n + 1981) (d + 9)))).trans ?_
  refine (r_aloadn f333_422 rfl).trans ?_
  refine (r_aloadnX f333_423 rfl).trans ?_
  refine (r_iloadn f333_424 rfl).trans ?_
  refine (r_iconst (v := 1) f333_425 rfl).trans ?_
  refine (r_iadd (v := 1) f333_426 (by decide)).trans ?_
  refine (r_xld (v := (xs 1)) f333_427 hX (by decide) rfl).trans ?_
  refine (r_virt (as := [.int (xs 1)]) (v := (some (.int v))) (h1 := h2) f333_428 g72 zg208 rfl rfl rfl rfl rfl rfl (ce (by omega) (e2 X (n + 1974) (d + 9)))).trans ?_
  refine (r_icmp_eq_t f333_431 rfl).trans ?_
  refine (r_iinc (v := 6) (L' := [some (.retAddr 1), some (.ref 0), some (.ref 72), some (.int 6)]) f333_2076 rfl rfl rfl).trans ?_
  refine (r_goto f333_2079).trans ?_
  refine (r_iloadn f333_18 rfl).trans ?_
  refine (r_aloadnX f333_19 rfl).trans ?_
  refine (r_xlen (v := 6) f333_20 hX rfl).trans ?_
  refine (r_bipush (v := 6) f333_21 rfl).trans ?_
  refine (r_isub (v := 0) f333_23 (by decide)).trans ?_
  refine (r_icmp_gt_t f333_24 (by decide)).trans ?_
  refine (r_iconst (v := 1) f333_2082 rfl).trans ?_
  exact r_zreturn f333_2083 rfl (by decide)
set_option maxRecDepth 20000 in
theorem lc_8 {X : aX} {xs : Nat → Int32} (hX : X 1 = some (6, xs)) (hk : xs 0 &&& 63 = 8) : ∃ h2 : aH, (∀ n d : Nat, arun X (n + 1002000) (d + 30) zM333 18 [some (.retAddr 1), some (.ref 0), some (.ref 72), some (.int 0)] [] zH0 = some (some (.int 1), h2)) ∧ h2.1.length ≤ 600000 ∧ h2.2 ≤ 7302250 := by
  obtain ⟨v, h1, h2, e1, e2, g72, s1, s2⟩ := pc_8 (xs 1) (xs 2)
  refine ⟨h2, fun n d => ?_, s1, s2⟩
  refine (r_iloadn f333_18 rfl).trans ?_
  refine (r_aloadnX f333_19 rfl).trans ?_
  refine (r_xlen (v := 6) f333_20 hX rfl).trans ?_
  refine (r_bipush (v := 6) f333_21 rfl).trans ?_
  refine (r_isub (v := 0) f333_23 (by decide)).trans ?_
  refine (r_icmp_gt_f f333_24 (by decide)).trans ?_
  refine (r_aloadnX f333_27 rfl).trans ?_
  refine (r_iloadn f333_28 rfl).trans ?_
  refine (r_xld (v := (xs 0)) f333_29 hX (by decide) rfl).trans ?_
  refine (r_bipush (v := 63) f333_30 rfl).trans ?_
  refine (r_iand (v := 8) f333_32 hk).trans ?_
  refine (r_tsw f333_33).trans ?_
  refine (asw_f (by decide)).trans ?_
  refine (asw_f (by decide)).trans ?_
  refine (asw_f (by decide)).trans ?_
  refine (asw_f (by decide)).trans ?_
  refine (asw_f (by decide)).trans ?_
  refine (asw_f (by decide)).trans ?_
  refine (asw_f (by decide)).trans ?_
  refine (asw_f (by decide)).trans ?_
  refine (asw_t (by decide)).trans ?_
  refine (r_aloadn f333_436 rfl).trans ?_
  refine (r_aloadnX f333_437 rfl).trans ?_
  refine (r_iloadn f333_438 rfl).trans ?_
  refine (r_iconst (v := 1) f333_439 rfl).trans ?_
  refine (r_iadd (v := 1) f333_440 (by decide)).trans ?_
  refine (r_xld (v := (xs 1)) f333_441 hX (by decide) rfl).trans ?_
  refine (r_aloadnX f333_442 rfl).trans ?_
  refine (r_iloadn f333_443 rfl).trans ?_
  refine (r_iconst (v := 2) f333_444 rfl).trans ?_
  refine (r_iadd (v := 2) f333_445 (by decide)).trans ?_
  refine (r_xld (v := (xs 2)) f333_446 hX (by decide) rfl).trans ?_
  refine (r_virt (as := [.int (xs 1), .int (xs 2)]) (v := (some (.int v))) (h1 := h1) f333_447 zh0 zg152 rfl rfl rfl rfl rfl rfl (ce (by omega) (e1 X (n + 1976) (d + 9)))).trans ?_
  refine (r_aloadn f333_450 rfl).trans ?_
  refine (r_aloadnX f333_451 rfl).trans ?_
  refine (r_iloadn f333_452 rfl).trans ?_
  refine (r_iconst (v := 1) f333_453 rfl).trans ?_
  refine (r_iadd (v := 1) f333_454 (by decide)).trans ?_
  refine (r_xld (v := (xs 1)) f333_455 hX (by decide) rfl).trans ?_
  refine (r_aloadnX f333_456 rfl).trans ?_
  refine (r_iloadn f333_457 rfl).trans ?_
  refine (r_iconst (v := 2) f333_458 rfl).trans ?_
  refine (r_iadd (v := 2) f333_459 (by decide)).trans ?_
  refine (r_xld (v := (xs 2)) f333_460 hX (by decide) rfl).trans ?_
  refine (r_virt (as := [.int (xs 1), .int (xs 2)]) (v := (some (.int v))) (h1 := h2) f333_461 g72 zg228 rfl rfl rfl rfl rfl rfl (ce (by omega) (e2 X (n + 1964) (d + 9)))).trans ?_
  refine (r_icmp_eq_t f333_464 rfl).trans ?_
  refine (r_iinc (v := 6) (L' := [some (.retAddr 1), some (.ref 0), some (.ref 72), some (.int 6)]) f333_2076 rfl rfl rfl).trans ?_
  refine (r_goto f333_2079).trans ?_
  refine (r_iloadn f333_18 rfl).trans ?_
  refine (r_aloadnX f333_19 rfl).trans ?_
  refine (r_xlen (v := 6) f333_20 hX rfl).trans ?_
  refine (r_bipush (v := 6) f333_21 rfl).trans ?_
  refine (r_isub (v := 0) f333_23 (by decide)).trans ?_
  refine (r_icmp_gt_t f333_24 (by decide)).trans ?_
  refine (r_iconst (v := 1) f333_2082 rfl).trans ?_
  exact r_zreturn f333_2083 rfl (by decide)
set_option maxRecDepth 20000 in
theorem lc_9 {X : aX} {xs : Nat → Int32} (hX : X 1 = some (6, xs)) (hk : xs 0 &&& 63 = 9) : ∃ h2 : aH, (∀ n d : Nat, arun X (n + 1002000) (d + 30) zM333 18 [some (.retAddr 1), some (.ref 0), some (.ref 72), some (.int 0)] [] zH0 = some (some (.int 1), h2)) ∧ h2.1.length ≤ 600000 ∧ h2.2 ≤ 7302250 := by
  obtain ⟨v, h1, h2, e1, e2, g72, s1, s2⟩ := pc_9 (xs 1) (xs 2) (xs 3)
  refine ⟨h2, fun n d => ?_, s1, s2⟩
  refine (r_iloadn f333_18 rfl).trans ?_
  refine (r_aloadnX f333_19 rfl).trans ?_
  refine (r_xlen (v := 6) f333_20 hX rfl).trans ?_
  refine (r_bipush (v := 6) f333_21 rfl).trans ?_
  refine (r_isub (v := 0) f333_23 (by decide)).trans ?_
  refine (r_icmp_gt_f f333_24 (by decide)).trans ?_
  refine (r_aloadnX f333_27 rfl).trans ?_
  refine (r_iloadn f333_28 rfl).trans ?_
  refine (r_xld (v := (xs 0)) f333_29 hX (by decide) rfl).trans ?_
  refine (r_bipush (v := 63) f333_30 rfl).trans ?_
  refine (r_iand (v := 9) f333_32 hk).trans ?_
  refine (r_tsw f333_33).trans ?_
  refine (asw_f (by decide)).trans ?_
  refine (asw_f (by decide)).trans ?_
  refine (asw_f (by decide)).trans ?_
  refine (asw_f (by decide)).trans ?_
  refine (asw_f (by decide)).trans ?_
  refine (asw_f (by decide)).trans ?_
  refine (asw_f (by decide)).trans ?_
  refine (asw_f (by decide)).trans ?_
  refine (asw_f (by decide)).trans ?_
  refine (asw_t (by decide)).trans ?_
  refine (r_aloadn f333_469 rfl).trans ?_
  refine (r_aloadnX f333_470 rfl).trans ?_
  refine (r_iloadn f333_471 rfl).trans ?_
  refine (r_iconst (v := 1) f333_472 rfl).trans ?_
  refine (r_iadd (v := 1) f333_473 (by decide)).trans ?_
  refine (r_xld (v := (xs 1)) f333_474 hX (by decide) rfl).trans ?_
  refine (r_aloadnX f333_475 rfl).trans ?_
  refine (r_iloadn f333_476 rfl).trans ?_
  refine (r_iconst (v := 2) f333_477 rfl).trans ?_
  refine (r_iadd (v := 2) f333_478 (by decide)).trans ?_
  refine (r_xld (v := (xs 2)) f333_479 hX (by decide) rfl).trans ?_
  refine (r_aloadnX f333_480 rfl).trans ?_
  refine (r_iloadn f333_481 rfl).trans ?_
  refine (r_iconst (v := 3) f333_482 rfl).trans ?_
  refine (r_iadd (v := 3) f333_483 (by decide)).trans ?_
  refine (r_xld (v := (xs 3)) f333_484 hX (by decide) rfl).trans ?_
  refine (r_virt (as := [.int (xs 1), .int (xs 2), .int (xs 3)]) (v := (some (.int v))) (h1 := h1) f333_485 zh0 zg153 rfl rfl rfl rfl rfl rfl (ce (by omega) (e1 X (n + 1971) (d + 9)))).trans ?_
  refine (r_aloadn f333_488 rfl).trans ?_
  refine (r_aloadnX f333_489 rfl).trans ?_
  refine (r_iloadn f333_490 rfl).trans ?_
  refine (r_iconst (v := 1) f333_491 rfl).trans ?_
  refine (r_iadd (v := 1) f333_492 (by decide)).trans ?_
  refine (r_xld (v := (xs 1)) f333_493 hX (by decide) rfl).trans ?_
  refine (r_aloadnX f333_494 rfl).trans ?_
  refine (r_iloadn f333_495 rfl).trans ?_
  refine (r_iconst (v := 2) f333_496 rfl).trans ?_
  refine (r_iadd (v := 2) f333_497 (by decide)).trans ?_
  refine (r_xld (v := (xs 2)) f333_498 hX (by decide) rfl).trans ?_
  refine (r_aloadnX f333_499 rfl).trans ?_
  refine (r_iloadn f333_500 rfl).trans ?_
  refine (r_iconst (v := 3) f333_501 rfl).trans ?_
  refine (r_iadd (v := 3) f333_502 (by decide)).trans ?_
  refine (r_xld (v := (xs 3)) f333_503 hX (by decide) rfl).trans ?_
  refine (r_virt (as := [.int (xs 1), .int (xs 2), .int (xs 3)]) (v := (some (.int v))) (h1 := h2) f333_504 g72 zg223 rfl rfl rfl rfl rfl rfl (ce (by omega) (e2 X (n + 1954) (d + 9)))).trans ?_
  refine (r_icmp_eq_t f333_507 rfl).trans ?_
  refine (r_iinc (v := 6) (L' := [some (.retAddr 1), some (.ref 0), some (.ref 72), some (.int 6)]) f333_2076 rfl rfl rfl).trans ?_
  refine (r_goto f333_2079).trans ?_
  refine (r_iloadn f333_18 rfl).trans ?_
  refine (r_aloadnX f333_19 rfl).trans ?_
  refine (r_xlen (v := 6) f333_20 hX rfl).trans ?_
  refine (r_bipush (v := 6) f333_21 rfl).trans ?_
  refine (r_isub (v := 0) f333_23 (by decide)).trans ?_
  refine (r_icmp_gt_t f333_24 (by decide)).trans ?_
  refine (r_iconst (v := 1) f333_2082 rfl).trans ?_
  exact r_zreturn f333_2083 rfl (by decide)
set_option maxRecDepth 20000 in
theorem lc_10 {X : aX} {xs : Nat → Int32} (hX : X 1 = some (6, xs)) (hk : xs 0 &&& 63 = 10) : ∃ h2 : aH, (∀ n d : Nat, arun X (n + 1002000) (d + 30) zM333 18 [some (.retAddr 1), some (.ref 0), some (.ref 72), some (.int 0)] [] zH0 = some (some (.int 1), h2)) ∧ h2.1.length ≤ 600000 ∧ h2.2 ≤ 7302250 := by
  obtain ⟨v, h1, h2, e1, e2, g72, s1, s2⟩ := pc_10 (xs 1)
  refine ⟨h2, fun n d => ?_, s1, s2⟩
  refine (r_iloadn f333_18 rfl).trans ?_
  refine (r_aloadnX f333_19 rfl).trans ?_
  refine (r_xlen (v := 6) f333_20 hX rfl).trans ?_
  refine (r_bipush (v := 6) f333_21 rfl).trans ?_
  refine (r_isub (v := 0) f333_23 (by decide)).trans ?_
  refine (r_icmp_gt_f f333_24 (by decide)).trans ?_
  refine (r_aloadnX f333_27 rfl).trans ?_
  refine (r_iloadn f333_28 rfl).trans ?_
  refine (r_xld (v := (xs 0)) f333_29 hX (by decide) rfl).trans ?_
  refine (r_bipush (v := 63) f333_30 rfl).trans ?_
  refine (r_iand (v := 10) f333_32 hk).trans ?_
  refine (r_tsw f333_33).trans ?_
  refine (asw_f (by decide)).trans ?_
  refine (asw_f (by decide)).trans ?_
  refine (asw_f (by decide)).trans ?_
  refine (asw_f (by decide)).trans ?_
  refine (asw_f (by decide)).trans ?_
  refine (asw_f (by decide)).trans ?_
  refine (asw_f (by decide)).trans ?_
  refine (asw_f (by decide)).trans ?_
  refine (asw_f (by decide)).trans ?_
  refine (asw_f (by decide)).trans ?_
  refine (asw_t (by decide)).trans ?_
  refine (r_aloadn f333_512 rfl).trans ?_
  refine (r_aloadnX f333_513 rfl).trans ?_
  refine (r_iloadn f333_514 rfl).trans ?_
  refine (r_iconst (v := 1) f333_515 rfl).trans ?_
  refine (r_iadd (v := 1) f333_516 (by decide)).trans ?_
  refine (r_xld (v := (xs 1)) f333_517 hX (by decide) rfl).trans ?_
  refine (r_virt (as := [.int (xs 1)]) (v := (some (.int v))) (h1 := h1) f333_518 zh0 zg154 rfl rfl rfl rfl rfl rfl (ce (by omega) (e1 X (n + 1981) (d + 9)))).trans ?_
  refine (r_aloadn f333_521 rfl).trans ?_
  refine (r_aloadnX f333_522 rfl).trans ?_
  refine (r_iloadn f333_523 rfl).trans ?_
  refine (r_iconst (v := 1) f333_524 rfl).trans ?_
  refine (r_iadd (v := 1) f333_525 (by decide)).trans ?_
  refine (r_xld (v := (xs 1)) f333_526 hX (by decide) rfl).trans ?_
  refine (r_virt (as := [.int (xs 1)]) (v := (some (.int v))) (h1 := h2) f333_527 g72 zg224 rfl rfl rfl rfl rfl rfl (ce (by omega) (e2 X (n + 1974) (d + 9)))).trans ?_
  refine (r_icmp_eq_t f333_530 rfl).trans ?_
  refine (r_iinc (v := 6) (L' := [some (.retAddr 1), some (.ref 0), some (.ref 72), some (.int 6)]) f333_2076 rfl rfl rfl).trans ?_
  refine (r_goto f333_2079).trans ?_
  refine (r_iloadn f333_18 rfl).trans ?_
  refine (r_aloadnX f333_19 rfl).trans ?_
  refine (r_xlen (v := 6) f333_20 hX rfl).trans ?_
  refine (r_bipush (v := 6) f333_21 rfl).trans ?_
  refine (r_isub (v := 0) f333_23 (by decide)).trans ?_
  refine (r_icmp_gt_t f333_24 (by decide)).trans ?_
  refine (r_iconst (v := 1) f333_2082 rfl).trans ?_
  exact r_zreturn f333_2083 rfl (by decide)
set_option maxRecDepth 20000 in
theorem lc_11 {X : aX} {xs : Nat → Int32} (hX : X 1 = some (6, xs)) (hk : xs 0 &&& 63 = 11) : ∃ h2 : aH, (∀ n d : Nat, arun X (n + 1002000) (d + 30) zM333 18 [some (.retAddr 1), some (.ref 0), some (.ref 72), some (.int 0)] [] zH0 = some (some (.int 1), h2)) ∧ h2.1.length ≤ 600000 ∧ h2.2 ≤ 7302250 := by
  obtain ⟨v, h1, h2, e1, e2, g72, s1, s2⟩ := pc_11 (xs 1) (xs 2) (xs 3)
  refine ⟨h2, fun n d => ?_, s1, s2⟩
  refine (r_iloadn f333_18 rfl).trans ?_
  refine (r_aloadnX f333_19 rfl).trans ?_
  refine (r_xlen (v := 6) f333_20 hX rfl).trans ?_
  refine (r_bipush (v := 6) f333_21 rfl).trans ?_
  refine (r_isub (v := 0) f333_23 (by decide)).trans ?_
  refine (r_icmp_gt_f f333_24 (by decide)).trans ?_
  refine (r_aloadnX f333_27 rfl).trans ?_
  refine (r_iloadn f333_28 rfl).trans ?_
  refine (r_xld (v := (xs 0)) f333_29 hX (by decide) rfl).trans ?_
  refine (r_bipush (v := 63) f333_30 rfl).trans ?_
  refine (r_iand (v := 11) f333_32 hk).trans ?_
  refine (r_tsw f333_33).trans ?_
  refine (asw_f (by decide)).trans ?_
  refine (asw_f (by decide)).trans ?_
  refine (asw_f (by decide)).trans ?_
  refine (asw_f (by decide)).trans ?_
  refine (asw_f (by decide)).trans ?_
  refine (asw_f (by decide)).trans ?_
  refine (asw_f (by decide)).trans ?_
  refine (asw_f (by decide)).trans ?_
  refine (asw_f (by decide)).trans ?_
  refine (asw_f (by decide)).trans ?_
  refine (asw_f (by decide)).trans ?_
  refine (asw_t (by decide)).trans ?_
  refine (r_aloadn f333_535 rfl).trans ?_
  refine (r_aloadnX f333_536 rfl).trans ?_
  refine (r_iloadn f333_537 rfl).trans ?_
  refine (r_iconst (v := 1) f333_538 rfl).trans ?_
  refine (r_iadd (v := 1) f333_539 (by decide)).trans ?_
  refine (r_xld (v := (xs 1)) f333_540 hX (by decide) rfl).trans ?_
  refine (r_aloadnX f333_541 rfl).trans ?_
  refine (r_iloadn f333_542 rfl).trans ?_
  refine (r_iconst (v := 2) f333_543 rfl).trans ?_
  refine (r_iadd (v := 2) f333_544 (by decide)).trans ?_
  refine (r_xld (v := (xs 2)) f333_545 hX (by decide) rfl).trans ?_
  refine (r_aloadnX f333_546 rfl).trans ?_
  refine (r_iloadn f333_547 rfl).trans ?_
  refine (r_iconst (v := 3) f333_548 rfl).trans ?_
  refine (r_iadd (v := 3) f333_549 (by decide)).trans ?_
  refine (r_xld (v := (xs 3)) f333_550 hX (by decide) rfl).trans ?_
  refine (r_virt (as := [.int (xs 1), .int (xs 2), .int (xs 3)]) (v := (some (.int v))) (h1 := h1) f333_551 zh0 zg155 rfl rfl rfl rfl rfl rfl (ce (by omega) (e1 X (n + 1971) (d + 9)))).trans ?_
  refine (r_aloadn f333_554 rfl).trans ?_
  refine (r_aloadnX f333_555 rfl).trans ?_
  refine (r_iloadn f333_556 rfl).trans ?_
  refine (r_iconst (v := 1) f333_557 rfl).trans ?_
  refine (r_iadd (v := 1) f333_558 (by decide)).trans ?_
  refine (r_xld (v := (xs 1)) f333_559 hX (by decide) rfl).trans ?_
  refine (r_aloadnX f333_560 rfl).trans ?_
  refine (r_iloadn f333_561 rfl).trans ?_
  refine (r_iconst (v := 2) f333_562 rfl).trans ?_
  refine (r_iadd (v := 2) f333_563 (by decide)).trans ?_
  refine (r_xld (v := (xs 2)) f333_564 hX (by decide) rfl).trans ?_
  refine (r_aloadnX f333_565 rfl).trans ?_
  refine (r_iloadn f333_566 rfl).trans ?_
  refine (r_iconst (v := 3) f333_567 rfl).trans ?_
  refine (r_iadd (v := 3) f333_568 (by decide)).trans ?_
  refine (r_xld (v := (xs 3)) f333_569 hX (by decide) rfl).trans ?_
  refine (r_virt (as := [.int (xs 1), .int (xs 2), .int (xs 3)]) (v := (some (.int v))) (h1 := h2) f333_570 g72 zg225 rfl rfl rfl rfl rfl rfl (ce (by omega) (e2 X (n + 1954) (d + 9)))).trans ?_
  refine (r_icmp_eq_t f333_573 rfl).trans ?_
  refine (r_iinc (v := 6) (L' := [some (.retAddr 1), some (.ref 0), some (.ref 72), some (.int 6)]) f333_2076 rfl rfl rfl).trans ?_
  refine (r_goto f333_2079).trans ?_
  refine (r_iloadn f333_18 rfl).trans ?_
  refine (r_aloadnX f333_19 rfl).trans ?_
  refine (r_xlen (v := 6) f333_20 hX rfl).trans ?_
  refine (r_bipush (v := 6) f333_21 rfl).trans ?_
  refine (r_isub (v := 0) f333_23 (by decide)).trans ?_
  refine (r_icmp_gt_t f333_24 (by decide)).trans ?_
  refine (r_iconst (v := 1) f333_2082 rfl).trans ?_
  exact r_zreturn f333_2083 rfl (by decide)
set_option maxRecDepth 20000 in
theorem lc_12 {X : aX} {xs : Nat → Int32} (hX : X 1 = some (6, xs)) (hk : xs 0 &&& 63 = 12) : ∃ h2 : aH, (∀ n d : Nat, arun X (n + 1002000) (d + 30) zM333 18 [some (.retAddr 1), some (.ref 0), some (.ref 72), some (.int 0)] [] zH0 = some (some (.int 1), h2)) ∧ h2.1.length ≤ 600000 ∧ h2.2 ≤ 7302250 := by
  obtain ⟨v, h1, h2, e1, e2, g72, s1, s2⟩ := pc_12 (xs 1) (xs 2) (xs 3)
  refine ⟨h2, fun n d => ?_, s1, s2⟩
  refine (r_iloadn f333_18 rfl).trans ?_
  refine (r_aloadnX f333_19 rfl).trans ?_
  refine (r_xlen (v := 6) f333_20 hX rfl).trans ?_
  refine (r_bipush (v := 6) f333_21 rfl).trans ?_
  refine (r_isub (v := 0) f333_23 (by decide)).trans ?_
  refine (r_icmp_gt_f f333_24 (by decide)).trans ?_
  refine (r_aloadnX f333_27 rfl).trans ?_
  refine (r_iloadn f333_28 rfl).trans ?_
  refine (r_xld (v := (xs 0)) f333_29 hX (by decide) rfl).trans ?_
  refine (r_bipush (v := 63) f333_30 rfl).trans ?_
  refine (r_iand (v := 12) f333_32 hk).trans ?_
  refine (r_tsw f333_33).trans ?_
  refine (asw_f (by decide)).trans ?_
  refine (asw_f (by decide)).trans ?_
  refine (asw_f (by decide)).trans ?_
  refine (asw_f (by decide)).trans ?_
  refine (asw_f (by decide)).trans ?_
  refine (asw_f (by decide)).trans ?_
  refine (asw_f (by decide)).trans ?_
  refine (asw_f (by decide)).trans ?_
  refine (asw_f (by decide)).trans ?_
  refine (asw_f (by decide)).trans ?_
  refine (asw_f (by decide)).trans ?_
  refine (asw_f (by decide)).trans ?_
  refine (asw_t (by decide)).trans ?_
  refine (r_aloadn f333_578 rfl).trans ?_
  refine (r_aloadnX f333_579 rfl).trans ?_
  refine (r_iloadn f333_580 rfl).trans ?_
  refine (r_iconst (v := 1) f333_581 rfl).trans ?_
  refine (r_iadd (v := 1) f333_582 (by decide)).trans ?_
  refine (r_xld (v := (xs 1)) f333_583 hX (by decide) rfl).trans ?_
  refine (r_aloadnX f333_584 rfl).trans ?_
  refine (r_iloadn f333_585 rfl).trans ?_
  refine (r_iconst (v := 2) f333_586 rfl).trans ?_
  refine (r_iadd (v := 2) f333_587 (by decide)).trans ?_
  refine (r_xld (v := (xs 2)) f333_588 hX (by decide) rfl).trans ?_
  refine (r_aloadnX f333_589 rfl).trans ?_
  refine (r_iloadn f333_590 rfl).trans ?_
  refine (r_iconst (v := 3) f333_591 rfl).trans ?_
  refine (r_iadd (v := 3) f333_592 (by decide)).trans ?_
  refine (r_xld (v := (xs 3)) f333_593 hX (by decide) rfl).trans ?_
  refine (r_virt (as := [.int (xs 1), .int (xs 2), .int (xs 3)]) (v := (some (.int v))) (h1 := h1) f333_594 zh0 zg156 rfl rfl rfl rfl rfl rfl (ce (by omega) (e1 X (n + 1971) (d + 9)))).trans ?_
  refine (r_aloadn f333_597 rfl).trans ?_
  refine (r_aloadnX f333_598 rfl).trans ?_
  refine (r_iloadn f333_599 rfl).trans ?_
  refine (r_iconst (v := 1) f333_600 rfl).trans ?_
  refine (r_iadd (v := 1) f333_601 (by decide)).trans ?_
  refine (r_xld (v := (xs 1)) f333_602 hX (by decide) rfl).trans ?_
  refine (r_aloadnX f333_603 rfl).trans ?_
  refine (r_iloadn f333_604 rfl).trans ?_
  refine (r_iconst (v := 2) f333_605 rfl).trans ?_
  refine (r_iadd (v := 2) f333_606 (by decide)).trans ?_
  refine (r_xld (v := (xs 2)) f333_607 hX (by decide) rfl).trans ?_
  refine (r_aloadnX f333_608 rfl).trans ?_
  refine (r_iloadn f333_609 rfl).trans ?_
  refine (r_iconst (v := 3) f333_610 rfl).trans ?_
  refine (r_iadd (v := 3) f333_611 (by decide)).trans ?_
  refine (r_xld (v := (xs 3)) f333_612 hX (by decide) rfl).trans ?_
  refine (r_virt (as := [.int (xs 1), .int (xs 2), .int (xs 3)]) (v := (some (.int v))) (h1 := h2) f333_613 g72 zg227 rfl rfl rfl rfl rfl rfl (ce (by omega) (e2 X (n + 1954) (d + 9)))).trans ?_
  refine (r_icmp_eq_t f333_616 rfl).trans ?_
  refine (r_iinc (v := 6) (L' := [some (.retAddr 1), some (.ref 0), some (.ref 72), some (.int 6)]) f333_2076 rfl rfl rfl).trans ?_
  refine (r_goto f333_2079).trans ?_
  refine (r_iloadn f333_18 rfl).trans ?_
  refine (r_aloadnX f333_19 rfl).trans ?_
  refine (r_xlen (v := 6) f333_20 hX rfl).trans ?_
  refine (r_bipush (v := 6) f333_21 rfl).trans ?_
  refine (r_isub (v := 0) f333_23 (by decide)).trans ?_
  refine (r_icmp_gt_t f333_24 (by decide)).trans ?_
  refine (r_iconst (v := 1) f333_2082 rfl).trans ?_
  exact r_zreturn f333_2083 rfl (by decide)
set_option maxRecDepth 20000 in
theorem lc_13 {X : aX} {xs : Nat → Int32} (hX : X 1 = some (6, xs)) (hk : xs 0 &&& 63 = 13) : ∃ h2 : aH, (∀ n d : Nat, arun X (n + 1002000) (d + 30) zM333 18 [some (.retAddr 1), some (.ref 0), some (.ref 72), some (.int 0)] [] zH0 = some (some (.int 1), h2)) ∧ h2.1.length ≤ 600000 ∧ h2.2 ≤ 7302250 := by
  obtain ⟨v, h1, h2, e1, e2, g72, s1, s2⟩ := pc_13 (xs 1) (xs 2) (xs 3)
  refine ⟨h2, fun n d => ?_, s1, s2⟩
  refine (r_iloadn f333_18 rfl).trans ?_
  refine (r_aloadnX f333_19 rfl).trans ?_
  refine (r_xlen (v := 6) f333_20 hX rfl).trans ?_
  refine (r_bipush (v := 6) f333_21 rfl).trans ?_
  refine (r_isub (v := 0) f333_23 (by decide)).trans ?_
  refine (r_icmp_gt_f f333_24 (by decide)).trans ?_
  refine (r_aloadnX f333_27 rfl).trans ?_
  refine (r_iloadn f333_28 rfl).trans ?_
  refine (r_xld (v := (xs 0)) f333_29 hX (by decide) rfl).trans ?_
  refine (r_bipush (v := 63) f333_30 rfl).trans ?_
  refine (r_iand (v := 13) f333_32 hk).trans ?_
  refine (r_tsw f333_33).trans ?_
  refine (asw_f (by decide)).trans ?_
  refine (asw_f (by decide)).trans ?_
  refine (asw_f (by decide)).trans ?_
  refine (asw_f (by decide)).trans ?_
  refine (asw_f (by decide)).trans ?_
  refine (asw_f (by decide)).trans ?_
  refine (asw_f (by decide)).trans ?_
  refine (asw_f (by decide)).trans ?_
  refine (asw_f (by decide)).trans ?_
  refine (asw_f (by decide)).trans ?_
  refine (asw_f (by decide)).trans ?_
  refine (asw_f (by decide)).trans ?_
  refine (asw_f (by decide)).trans ?_
  refine (asw_t (by decide)).trans ?_
  refine (r_aloadn f333_621 rfl).trans ?_
  refine (r_aloadnX f333_622 rfl).trans ?_
  refine (r_iloadn f333_623 rfl).trans ?_
  refine (r_iconst (v := 1) f333_624 rfl).trans ?_
  refine (r_iadd (v := 1) f333_625 (by decide)).trans ?_
  refine (r_xld (v := (xs 1)) f333_626 hX (by decide) rfl).trans ?_
  refine (r_aloadnX f333_627 rfl).trans ?_
  refine (r_iloadn f333_628 rfl).trans ?_
  refine (r_iconst (v := 2) f333_629 rfl).trans ?_
  refine (r_iadd (v := 2) f333_630 (by decide)).trans ?_
  refine (r_xld (v := (xs 2)) f333_631 hX (by decide) rfl).trans ?_
  refine (r_aloadnX f333_632 rfl).trans ?_
  refine (r_iloadn f333_633 rfl).trans ?_
  refine (r_iconst (v := 3) f333_634 rfl).trans ?_
  refine (r_iadd (v := 3) f333_635 (by decide)).trans ?_
  refine (r_xld (v := (xs 3)) f333_636 hX (by decide) rfl).trans ?_
  refine (r_virt (as := [.int (xs 1), .int (xs 2), .int (xs 3)]) (v := (some (.int v))) (h1 := h1) f333_637 zh0 zg157 rfl rfl rfl rfl rfl rfl (ce (by omega) (e1 X (n + 1971) (d + 9)))).trans ?_
  refine (r_aloadn f333_640 rfl).trans ?_
  refine (r_aloadnX f333_641 rfl).trans ?_
  refine (r_iloadn f333_642 rfl).trans ?_
  refine (r_iconst (v := 1) f333_643 rfl).trans ?_
  refine (r_iadd (v := 1) f333_644 (by decide)).trans ?_
  refine (r_xld (v := (xs 1)) f333_645 hX (by decide) rfl).trans ?_
  refine (r_aloadnX f333_646 rfl).trans ?_
  refine (r_iloadn f333_647 rfl).trans ?_
  refine (r_iconst (v := 2) f333_648 rfl).trans ?_
  refine (r_iadd (v := 2) f333_649 (by decide)).trans ?_
  refine (r_xld (v := (xs 2)) f333_650 hX (by decide) rfl).trans ?_
  refine (r_aloadnX f333_651 rfl).trans ?_
  refine (r_iloadn f333_652 rfl).trans ?_
  refine (r_iconst (v := 3) f333_653 rfl).trans ?_
  refine (r_iadd (v := 3) f333_654 (by decide)).trans ?_
  refine (r_xld (v := (xs 3)) f333_655 hX (by decide) rfl).trans ?_
  refine (r_virt (as := [.int (xs 1), .int (xs 2), .int (xs 3)]) (v := (some (.int v))) (h1 := h2) f333_656 g72 zg230 rfl rfl rfl rfl rfl rfl (ce (by omega) (e2 X (n + 1954) (d + 9)))).trans ?_
  refine (r_icmp_eq_t f333_659 rfl).trans ?_
  refine (r_iinc (v := 6) (L' := [some (.retAddr 1), some (.ref 0), some (.ref 72), some (.int 6)]) f333_2076 rfl rfl rfl).trans ?_
  refine (r_goto f333_2079).trans ?_
  refine (r_iloadn f333_18 rfl).trans ?_
  refine (r_aloadnX f333_19 rfl).trans ?_
  refine (r_xlen (v := 6) f333_20 hX rfl).trans ?_
  refine (r_bipush (v := 6) f333_21 rfl).trans ?_
  refine (r_isub (v := 0) f333_23 (by decide)).trans ?_
  refine (r_icmp_gt_t f333_24 (by decide)).trans ?_
  refine (r_iconst (v := 1) f333_2082 rfl).trans ?_
  exact r_zreturn f333_2083 rfl (by decide)
set_option maxRecDepth 20000 in
theorem lc_14 {X : aX} {xs : Nat → Int32} (hX : X 1 = some (6, xs)) (hk : xs 0 &&& 63 = 14) : ∃ h2 : aH, (∀ n d : Nat, arun X (n + 1002000) (d + 30) zM333 18 [some (.retAddr 1), some (.ref 0), some (.ref 72), some (.int 0)] [] zH0 = some (some (.int 1), h2)) ∧ h2.1.length ≤ 600000 ∧ h2.2 ≤ 7302250 := by
  obtain ⟨v, h1, h2, e1, e2, g72, s1, s2⟩ := pc_14 (xs 1) (xs 2)
  refine ⟨h2, fun n d => ?_, s1, s2⟩
  refine (r_iloadn f333_18 rfl).trans ?_
  refine (r_aloadnX f333_19 rfl).trans ?_
  refine (r_xlen (v := 6) f333_20 hX rfl).trans ?_
  refine (r_bipush (v := 6) f333_21 rfl).trans ?_
  refine (r_isub (v := 0) f333_23 (by decide)).trans ?_
  refine (r_icmp_gt_f f333_24 (by decide)).trans ?_
  refine (r_aloadnX f333_27 rfl).trans ?_
  refine (r_iloadn f333_28 rfl).trans ?_
  refine (r_xld (v := (xs 0)) f333_29 hX (by decide) rfl).trans ?_
  refine (r_bipush (v := 63) f333_30 rfl).trans ?_
  refine (r_iand (v := 14) f333_32 hk).trans ?_
  refine (r_tsw f333_33).trans ?_
  refine (asw_f (by decide)).trans ?_
  refine (asw_f (by decide)).trans ?_
  refine (asw_f (by decide)).trans ?_
  refine (asw_f (by decide)).trans ?_
  refine (asw_f (by decide)).trans ?_
  refine (asw_f (by decide)).trans ?_
  refine (asw_f (by decide)).trans ?_
  refine (asw_f (by decide)).trans ?_
  refine (asw_f (by decide)).trans ?_
  refine (asw_f (by decide)).trans ?_
  refine (asw_f (by decide)).trans ?_
  refine (asw_f (by decide)).trans ?_
  refine (asw_f (by decide)).trans ?_
  refine (asw_f (by decide)).trans ?_
  refine (asw_t (by decide)).trans ?_
  refine (r_aloadn f333_664 rfl).trans ?_
  refine (r_aloadnX f333_665 rfl).trans ?_
  refine (r_iloadn f333_666 rfl).trans ?_
  refine (r_iconst (v := 1) f333_667 rfl).trans ?_
  refine (r_iadd (v := 1) f333_668 (by decide)).trans ?_
  refine (r_xld (v := (xs 1)) f333_669 hX (by decide) rfl).trans ?_
  refine (r_aloadnX f333_670 rfl).trans ?_
  refine (r_iloadn f333_671 rfl).trans ?_
  refine (r_iconst (v := 2) f333_672 rfl).trans ?_
  refine (r_iadd (v := 2) f333_673 (by decide)).trans ?_
  refine (r_xld (v := (xs 2)) f333_674 hX (by decide) rfl).trans ?_
  refine (r_virt (as := [.int (xs 1), .int (xs 2)]) (v := (some (.int v))) (h1 := h1) f333_675 zh0 zg158 rfl rfl rfl rfl rfl rfl (ce (by omega) (e1 X (n + 1976) (d + 9)))).trans ?_
  refine (r_aloadn f333_678 rfl).trans ?_
  refine (r_aloadnX f333_679 rfl).trans ?_
  refine (r_iloadn f333_680 rfl).trans ?_
  refine (r_iconst (v := 1) f333_681 rfl).trans ?_
  refine (r_iadd (v := 1) f333_682 (by decide)).trans ?_
  refine (r_xld (v := (xs 1)) f333_683 hX (by decide) rfl).trans ?_
  refine (r_aloadnX f333_684 rfl).trans ?_
  refine (r_iloadn f333_685 rfl).trans ?_
  refine (r_iconst (v := 2) f333_686 rfl).trans ?_
  refine (r_iadd (v := 2) f333_687 (by decide)).trans ?_
  refine (r_xld (v := (xs 2)) f333_688 hX (by decide) rfl).trans ?_
  refine (r_virt (as := [.int (xs 1), .int (xs 2)]) (v := (some (.int v))) (h1 := h2) f333_689 g72 zg231 rfl rfl rfl rfl rfl rfl (ce (by omega) (e2 X (n + 1964) (d + 9)))).trans ?_
  refine (r_icmp_eq_t f333_692 rfl).trans ?_
  refine (r_iinc (v := 6) (L' := [some (.retAddr 1), some (.ref 0), some (.ref 72), some (.int 6)]) f333_2076 rfl rfl rfl).trans ?_
  refine (r_goto f333_2079).trans ?_
  refine (r_iloadn f333_18 rfl).trans ?_
  refine (r_aloadnX f333_19 rfl).trans ?_
  refine (r_xlen (v := 6) f333_20 hX rfl).trans ?_
  refine (r_bipush (v := 6) f333_21 rfl).trans ?_
  refine (r_isub (v := 0) f333_23 (by decide)).trans ?_
  refine (r_icmp_gt_t f333_24 (by decide)).trans ?_
  refine (r_iconst (v := 1) f333_2082 rfl).trans ?_
  exact r_zreturn f333_2083 rfl (by decide)
set_option maxRecDepth 20000 in
theorem lc_15 {X : aX} {xs : Nat → Int32} (hX : X 1 = some (6, xs)) (hk : xs 0 &&& 63 = 15) : ∃ h2 : aH, (∀ n d : Nat, arun X (n + 1002000) (d + 30) zM333 18 [some (.retAddr 1), some (.ref 0), some (.ref 72), some (.int 0)] [] zH0 = some (some (.int 1), h2)) ∧ h2.1.length ≤ 600000 ∧ h2.2 ≤ 7302250 := by
  obtain ⟨v, h1, h2, e1, e2, g72, s1, s2⟩ := pc_15 (xs 1) (xs 2) (xs 3)
  refine ⟨h2, fun n d => ?_, s1, s2⟩
  refine (r_iloadn f333_18 rfl).trans ?_
  refine (r_aloadnX f333_19 rfl).trans ?_
  refine (r_xlen (v := 6) f333_20 hX rfl).trans ?_
  refine (r_bipush (v := 6) f333_21 rfl).trans ?_
  refine (r_isub (v := 0) f333_23 (by decide)).trans ?_
  refine (r_icmp_gt_f f333_24 (by decide)).trans ?_
  refine (r_aloadnX f333_27 rfl).trans ?_
  refine (r_iloadn f333_28 rfl).trans ?_
  refine (r_xld (v := (xs 0)) f333_29 hX (by decide) rfl).trans ?_
  refine (r_bipush (v := 63) f333_30 rfl).trans ?_
  refine (r_iand (v := 15) f333_32 hk).trans ?_
  refine (r_tsw f333_33).trans ?_
  refine (asw_f (by decide)).trans ?_
  refine (asw_f (by decide)).trans ?_
  refine (asw_f (by decide)).trans ?_
  refine (asw_f (by decide)).trans ?_
  refine (asw_f (by decide)).trans ?_
  refine (asw_f (by decide)).trans ?_
  refine (asw_f (by decide)).trans ?_
  refine (asw_f (by decide)).trans ?_
  refine (asw_f (by decide)).trans ?_
  refine (asw_f (by decide)).trans ?_
  refine (asw_f (by decide)).trans ?_
  refine (asw_f (by decide)).trans ?_
  refine (asw_f (by decide)).trans ?_
  refine (asw_f (by decide)).trans ?_
  refine (asw_f (by decide)).trans ?_
  refine (asw_t (by decide)).trans ?_
  refine (r_aloadn f333_697 rfl).trans ?_
  refine (r_aloadnX f333_698 rfl).trans ?_
  refine (r_iloadn f333_699 rfl).trans ?_
  refine (r_iconst (v := 1) f333_700 rfl).trans ?_
  refine (r_iadd (v := 1) f333_701 (by decide)).trans ?_
  refine (r_xld (v := (xs 1)) f333_702 hX (by decide) rfl).trans ?_
  refine (r_aloadnX f333_703 rfl).trans ?_
  refine (r_iloadn f333_704 rfl).trans ?_
  refine (r_iconst (v := 2) f333_705 rfl).trans ?_
  refine (r_iadd (v := 2) f333_706 (by decide)).trans ?_
  refine (r_xld (v := (xs 2)) f333_707 hX (by decide) rfl).trans ?_
  refine (r_aloadnX f333_708 rfl).trans ?_
  refine (r_iloadn f333_709 rfl).trans ?_
  refine (r_iconst (v := 3) f333_710 rfl).trans ?_
  refine (r_iadd (v := 3) f333_711 (by decide)).trans ?_
  refine (r_xld (v := (xs 3)) f333_712 hX (by decide) rfl).trans ?_
  refine (r_virt (as := [.int (xs 1), .int (xs 2), .int (xs 3)]) (v := (some (.int v))) (h1 := h1) f333_713 zh0 zg159 rfl rfl rfl rfl rfl rfl (ce (by omega) (e1 X (n + 1971) (d + 9)))).trans ?_
  refine (r_aloadn f333_716 rfl).trans ?_
  refine (r_aloadnX f333_717 rfl).trans ?_
  refine (r_iloadn f333_718 rfl).trans ?_
  refine (r_iconst (v := 1) f333_719 rfl).trans ?_
  refine (r_iadd (v := 1) f333_720 (by decide)).trans ?_
  refine (r_xld (v := (xs 1)) f333_721 hX (by decide) rfl).trans ?_
  refine (r_aloadnX f333_722 rfl).trans ?_
  refine (r_iloadn f333_723 rfl).trans ?_
  refine (r_iconst (v := 2) f333_724 rfl).trans ?_
  refine (r_iadd (v := 2) f333_725 (by decide)).trans ?_
  refine (r_xld (v := (xs 2)) f333_726 hX (by decide) rfl).trans ?_
  refine (r_aloadnX f333_727 rfl).trans ?_
  refine (r_iloadn f333_728 rfl).trans ?_
  refine (r_iconst (v := 3) f333_729 rfl).trans ?_
  refine (r_iadd (v := 3) f333_730 (by decide)).trans ?_
  refine (r_xld (v := (xs 3)) f333_731 hX (by decide) rfl).trans ?_
  refine (r_virt (as := [.int (xs 1), .int (xs 2), .int (xs 3)]) (v := (some (.int v))) (h1 := h2) f333_732 g72 zg232 rfl rfl rfl rfl rfl rfl (ce (by omega) (e2 X (n + 1954) (d + 9)))).trans ?_
  refine (r_icmp_eq_t f333_735 rfl).trans ?_
  refine (r_iinc (v := 6) (L' := [some (.retAddr 1), some (.ref 0), some (.ref 72), some (.int 6)]) f333_2076 rfl rfl rfl).trans ?_
  refine (r_goto f333_2079).trans ?_
  refine (r_iloadn f333_18 rfl).trans ?_
  refine (r_aloadnX f333_19 rfl).trans ?_
  refine (r_xlen (v := 6) f333_20 hX rfl).trans ?_
  refine (r_bipush (v := 6) f333_21 rfl).trans ?_
  refine (r_isub (v := 0) f333_23 (by decide)).trans ?_
  refine (r_icmp_gt_t f333_24 (by decide)).trans ?_
  refine (r_iconst (v := 1) f333_2082 rfl).trans ?_
  exact r_zreturn f333_2083 rfl (by decide)
set_option maxRecDepth 20000 in
theorem lc_16 {X : aX} {xs : Nat → Int32} (hX : X 1 = some (6, xs)) (hk : xs 0 &&& 63 = 16) : ∃ h2 : aH, (∀ n d : Nat, arun X (n + 1002000) (d + 30) zM333 18 [some (.retAddr 1), some (.ref 0), some (.ref 72), some (.int 0)] [] zH0 = some (some (.int 1), h2)) ∧ h2.1.length ≤ 600000 ∧ h2.2 ≤ 7302250 := by
  obtain ⟨v, h1, h2, e1, e2, g72, s1, s2⟩ := pc_16 (xs 1) (xs 2) (xs 3) (xs 4) (xs 5)
  refine ⟨h2, fun n d => ?_, s1, s2⟩
  refine (r_iloadn f333_18 rfl).trans ?_
  refine (r_aloadnX f333_19 rfl).trans ?_
  refine (r_xlen (v := 6) f333_20 hX rfl).trans ?_
  refine (r_bipush (v := 6) f333_21 rfl).trans ?_
  refine (r_isub (v := 0) f333_23 (by decide)).trans ?_
  refine (r_icmp_gt_f f333_24 (by decide)).trans ?_
  refine (r_aloadnX f333_27 rfl).trans ?_
  refine (r_iloadn f333_28 rfl).trans ?_
  refine (r_xld (v := (xs 0)) f333_29 hX (by decide) rfl).trans ?_
  refine (r_bipush (v := 63) f333_30 rfl).trans ?_
  refine (r_iand (v := 16) f333_32 hk).trans ?_
  refine (r_tsw f333_33).trans ?_
  refine (asw_f (by decide)).trans ?_
  refine (asw_f (by decide)).trans ?_
  refine (asw_f (by decide)).trans ?_
  refine (asw_f (by decide)).trans ?_
  refine (asw_f (by decide)).trans ?_
  refine (asw_f (by decide)).trans ?_
  refine (asw_f (by decide)).trans ?_
  refine (asw_f (by decide)).trans ?_
  refine (asw_f (by decide)).trans ?_
  refine (asw_f (by decide)).trans ?_
  refine (asw_f (by decide)).trans ?_
  refine (asw_f (by decide)).trans ?_
  refine (asw_f (by decide)).trans ?_
  refine (asw_f (by decide)).trans ?_
  refine (asw_f (by decide)).trans ?_
  refine (asw_f (by decide)).trans ?_
  refine (asw_t (by decide)).trans ?_
  refine (r_aloadn f333_740 rfl).trans ?_
  refine (r_aloadnX f333_741 rfl).trans ?_
  refine (r_iloadn f333_742 rfl).trans ?_
  refine (r_iconst (v := 1) f333_743 rfl).trans ?_
  refine (r_iadd (v := 1) f333_744 (by decide)).trans ?_
  refine (r_xld (v := (xs 1)) f333_745 hX (by decide) rfl).trans ?_
  refine (r_aloadnX f333_746 rfl).trans ?_
  refine (r_iloadn f333_747 rfl).trans ?_
  refine (r_iconst (v := 2) f333_748 rfl).trans ?_
  refine (r_iadd (v := 2) f333_749 (by decide)).trans ?_
  refine (r_xld (v := (xs 2)) f333_750 hX (by decide) rfl).trans ?_
  refine (r_aloadnX f333_751 rfl).trans ?_
  refine (r_iloadn f333_752 rfl).trans ?_
  refine (r_iconst (v := 3) f333_753 rfl).trans ?_
  refine (r_iadd (v := 3) f333_754 (by decide)).trans ?_
  refine (r_xld (v := (xs 3)) f333_755 hX (by decide) rfl).trans ?_
  refine (r_aloadnX f333_756 rfl).trans ?_
  refine (r_iloadn f333_757 rfl).trans ?_
  refine (r_iconst (v := 4) f333_758 rfl).trans ?_
  refine (r_iadd (v := 4) f333_759 (by decide)).trans ?_
  refine (r_xld (v := (xs 4)) f333_760 hX (by decide) rfl).trans ?_
  refine (r_aloadnX f333_761 rfl).trans ?_
  refine (r_iloadn f333_762 rfl).trans ?_
  refine (r_iconst (v := 5) f333_763 rfl).trans ?_
  refine (r_iadd (v := 5) f333_764 (by decide)).trans ?_
  refine (r_xld (v := (xs 5)) f333_765 hX (by decide) rfl).trans ?_
  refine (r_virt (as := [.int (xs 1), .int (xs 2), .int (xs 3), .int (xs 4), .int (xs 5)]) (v := (some (.int v))) (h1 := h1) f333_766 zh0 zg160 rfl rfl rfl rfl rfl rfl (ce (by omega) (e1 X (n + 1961) (d + 9)))).trans ?_
  refine (r_aloadn f333_769 rfl).trans ?_
  refine (r_aloadnX f333_770 rfl).trans ?_
  refine (r_iloadn f333_771 rfl).trans ?_
  refine (r_iconst (v := 1) f333_772 rfl).trans ?_
  refine (r_iadd (v := 1) f333_773 (by decide)).trans ?_
  refine (r_xld (v := (xs 1)) f333_774 hX (by decide) rfl).trans ?_
  refine (r_aloadnX f333_775 rfl).trans ?_
  refine (r_iloadn f333_776 rfl).trans ?_
  refine (r_iconst (v := 2) f333_777 rfl).trans ?_
  refine (r_iadd (v := 2) f333_778 (by decide)).trans ?_
  refine (r_xld (v := (xs 2)) f333_779 hX (by decide) rfl).trans ?_
  refine (r_aloadnX f333_780 rfl).trans ?_
  refine (r_iloadn f333_781 rfl).trans ?_
  refine (r_iconst (v := 3) f333_782 rfl).trans ?_
  refine (r_iadd (v := 3) f333_783 (by decide)).trans ?_
  refine (r_xld (v := (xs 3)) f333_784 hX (by decide) rfl).trans ?_
  refine (r_aloadnX f333_785 rfl).trans ?_
  refine (r_iloadn f333_786 rfl).trans ?_
  refine (r_iconst (v := 4) f333_787 rfl).trans ?_
  refine (r_iadd (v := 4) f333_788 (by decide)).trans ?_
  refine (r_xld (v := (xs 4)) f333_789 hX (by decide) rfl).trans ?_
  refine (r_aloadnX f333_790 rfl).trans ?_
  refine (r_iloadn f333_791 rfl).trans ?_
  refine (r_iconst (v := 5) f333_792 rfl).trans ?_
  refine (r_iadd (v := 5) f333_793 (by decide)).trans ?_
  refine (r_xld (v := (xs 5)) f333_794 hX (by decide) rfl).trans ?_
  refine (r_virt (as := [.int (xs 1), .int (xs 2), .int (xs 3), .int (xs 4), .int (xs 5)]) (v := (some (.int v))) (h1 := h2) f333_795 g72 zg242 rfl rfl rfl rfl rfl rfl (ce (by omega) (e2 X (n + 1934) (d + 9)))).trans ?_
  refine (r_icmp_eq_t f333_798 rfl).trans ?_
  refine (r_iinc (v := 6) (L' := [some (.retAddr 1), some (.ref 0), some (.ref 72), some (.int 6)]) f333_2076 rfl rfl rfl).trans ?_
  refine (r_goto f333_2079).trans ?_
  refine (r_iloadn f333_18 rfl).trans ?_
  refine (r_aloadnX f333_19 rfl).trans ?_
  refine (r_xlen (v := 6) f333_20 hX rfl).trans ?_
  refine (r_bipush (v := 6) f333_21 rfl).trans ?_
  refine (r_isub (v := 0) f333_23 (by decide)).trans ?_
  refine (r_icmp_gt_t f333_24 (by decide)).trans ?_
  refine (r_iconst (v := 1) f333_2082 rfl).trans ?_
  exact r_zreturn f333_2083 rfl (by decide)
set_option maxRecDepth 20000 in
theorem lc_17 {X : aX} {xs : Nat → Int32} (hX : X 1 = some (6, xs)) (hk : xs 0 &&& 63 = 17) : ∃ h2 : aH, (∀ n d : Nat, arun X (n + 1002000) (d + 30) zM333 18 [some (.retAddr 1), some (.ref 0), some (.ref 72), some (.int 0)] [] zH0 = some (some (.int 1), h2)) ∧ h2.1.length ≤ 600000 ∧ h2.2 ≤ 7302250 := by
  obtain ⟨v, h1, h2, e1, e2, g72, s1, s2⟩ := pc_17 (xs 1) (xs 2) (xs 3) (xs 4)
  refine ⟨h2, fun n d => ?_, s1, s2⟩
  refine (r_iloadn f333_18 rfl).trans ?_
  refine (r_aloadnX f333_19 rfl).trans ?_
  refine (r_xlen (v := 6) f333_20 hX rfl).trans ?_
  refine (r_bipush (v := 6) f333_21 rfl).trans ?_
  refine (r_isub (v := 0) f333_23 (by decide)).trans ?_
  refine (r_icmp_gt_f f333_24 (by decide)).trans ?_
  refine (r_aloadnX f333_27 rfl).trans ?_
  refine (r_iloadn f333_28 rfl).trans ?_
  refine (r_xld (v := (xs 0)) f333_29 hX (by decide) rfl).trans ?_
  refine (r_bipush (v := 63) f333_30 rfl).trans ?_
  refine (r_iand (v := 17) f333_32 hk).trans ?_
  refine (r_tsw f333_33).trans ?_
  refine (asw_f (by decide)).trans ?_
  refine (asw_f (by decide)).trans ?_
  refine (asw_f (by decide)).trans ?_
  refine (asw_f (by decide)).trans ?_
  refine (asw_f (by decide)).trans ?_
  refine (asw_f (by decide)).trans ?_
  refine (asw_f (by decide)).trans ?_
  refine (asw_f (by decide)).trans ?_
  refine (asw_f (by decide)).trans ?_
  refine (asw_f (by decide)).trans ?_
  refine (asw_f (by decide)).trans ?_
  refine (asw_f (by decide)).trans ?_
  refine (asw_f (by decide)).trans ?_
  refine (asw_f (by decide)).trans ?_
  refine (asw_f (by decide)).trans ?_
  refine (asw_f (by decide)).trans ?_
  refine (asw_f (by decide)).trans ?_
  refine (asw_t (by decide)).trans ?_
  refine (r_aloadn f333_803 rfl).trans ?_
  refine (r_aloadnX f333_804 rfl).trans ?_
  refine (r_iloadn f333_805 rfl).trans ?_
  refine (r_iconst (v := 1) f333_806 rfl).trans ?_
  refine (r_iadd (v := 1) f333_807 (by decide)).trans ?_
  refine (r_xld (v := (xs 1)) f333_808 hX (by decide) rfl).trans ?_
  refine (r_aloadnX f333_809 rfl).trans ?_
  refine (r_iloadn f333_810 rfl).trans ?_
  refine (r_iconst (v := 2) f333_811 rfl).trans ?_
  refine (r_iadd (v := 2) f333_812 (by decide)).trans ?_
  refine (r_xld (v := (xs 2)) f333_813 hX (by decide) rfl).trans ?_
  refine (r_aloadnX f333_814 rfl).trans ?_
  refine (r_iloadn f333_815 rfl).trans ?_
  refine (r_iconst (v := 3) f333_816 rfl).trans ?_
  refine (r_iadd (v := 3) f333_817 (by decide)).trans ?_
  refine (r_xld (v := (xs 3)) f333_818 hX (by decide) rfl).trans ?_
  refine (r_aloadnX f333_819 rfl).trans ?_
  refine (r_iloadn f333_820 rfl).trans ?_
  refine (r_iconst (v := 4) f333_821 rfl).trans ?_
  refine (r_iadd (v := 4) f333_822 (by decide)).trans ?_
  refine (r_xld (v := (xs 4)) f333_823 hX (by decide) rfl).trans ?_
  refine (r_virt (as := [.int (xs 1), .int (xs 2), .int (xs 3), .int (xs 4)]) (v := (some (.int v))) (h1 := h1) f333_824 zh0 zg161 rfl rfl rfl rfl rfl rfl (ce (by omega) (e1 X (n + 1966) (d + 9)))).trans ?_
  refine (r_aloadn f333_827 rfl).trans ?_
  refine (r_aloadnX f333_828 rfl).trans ?_
  refine (r_iloadn f333_829 rfl).trans ?_
  refine (r_iconst (v := 1) f333_830 rfl).trans ?_
  refine (r_iadd (v := 1) f333_831 (by decide)).trans ?_
  refine (r_xld (v := (xs 1)) f333_832 hX (by decide) rfl).trans ?_
  refine (r_aloadnX f333_833 rfl).trans ?_
  refine (r_iloadn f333_834 rfl).trans ?_
  refine (r_iconst (v := 2) f333_835 rfl).trans ?_
  refine (r_iadd (v := 2) f333_836 (by decide)).trans ?_
  refine (r_xld (v := (xs 2)) f333_837 hX (by decide) rfl).trans ?_
  refine (r_aloadnX f333_838 rfl).trans ?_
  refine (r_iloadn f333_839 rfl).trans ?_
  refine (r_iconst (v := 3) f333_840 rfl).trans ?_
  refine (r_iadd (v := 3) f333_841 (by decide)).trans ?_
  refine (r_xld (v := (xs 3)) f333_842 hX (by decide) rfl).trans ?_
  refine (r_aloadnX f333_843 rfl).trans ?_
  refine (r_iloadn f333_844 rfl).trans ?_
  refine (r_iconst (v := 4) f333_845 rfl).trans ?_
  refine (r_iadd (v := 4) f333_846 (by decide)).trans ?_
  refine (r_xld (v := (xs 4)) f333_847 hX (by decide) rfl).trans ?_
  refine (r_virt (as := [.int (xs 1), .int (xs 2), .int (xs 3), .int (xs 4)]) (v := (some (.int v))) (h1 := h2) f333_848 g72 zg243 rfl rfl rfl rfl rfl rfl (ce (by omega) (e2 X (n + 1944) (d + 9)))).trans ?_
  refine (r_icmp_eq_t f333_851 rfl).trans ?_
  refine (r_iinc (v := 6) (L' := [some (.retAddr 1), some (.ref 0), some (.ref 72), some (.int 6)]) f333_2076 rfl rfl rfl).trans ?_
  refine (r_goto f333_2079).trans ?_
  refine (r_iloadn f333_18 rfl).trans ?_
  refine (r_aloadnX f333_19 rfl).trans ?_
  refine (r_xlen (v := 6) f333_20 hX rfl).trans ?_
  refine (r_bipush (v := 6) f333_21 rfl).trans ?_
  refine (r_isub (v := 0) f333_23 (by decide)).trans ?_
  refine (r_icmp_gt_t f333_24 (by decide)).trans ?_
  refine (r_iconst (v := 1) f333_2082 rfl).trans ?_
  exact r_zreturn f333_2083 rfl (by decide)
set_option maxRecDepth 20000 in
theorem lc_18 {X : aX} {xs : Nat → Int32} (hX : X 1 = some (6, xs)) (hk : xs 0 &&& 63 = 18) : ∃ h2 : aH, (∀ n d : Nat, arun X (n + 1002000) (d + 30) zM333 18 [some (.retAddr 1), some (.ref 0), some (.ref 72), some (.int 0)] [] zH0 = some (some (.int 1), h2)) ∧ h2.1.length ≤ 600000 ∧ h2.2 ≤ 7302250 := by
  obtain ⟨v, h1, h2, e1, e2, g72, s1, s2⟩ := pc_18 (xs 1) (xs 2)
  refine ⟨h2, fun n d => ?_, s1, s2⟩
  refine (r_iloadn f333_18 rfl).trans ?_
  refine (r_aloadnX f333_19 rfl).trans ?_
  refine (r_xlen (v := 6) f333_20 hX rfl).trans ?_
  refine (r_bipush (v := 6) f333_21 rfl).trans ?_
  refine (r_isub (v := 0) f333_23 (by decide)).trans ?_
  refine (r_icmp_gt_f f333_24 (by decide)).trans ?_
  refine (r_aloadnX f333_27 rfl).trans ?_
  refine (r_iloadn f333_28 rfl).trans ?_
  refine (r_xld (v := (xs 0)) f333_29 hX (by decide) rfl).trans ?_
  refine (r_bipush (v := 63) f333_30 rfl).trans ?_
  refine (r_iand (v := 18) f333_32 hk).trans ?_
  refine (r_tsw f333_33).trans ?_
  refine (asw_f (by decide)).trans ?_
  refine (asw_f (by decide)).trans ?_
  refine (asw_f (by decide)).trans ?_
  refine (asw_f (by decide)).trans ?_
  refine (asw_f (by decide)).trans ?_
  refine (asw_f (by decide)).trans ?_
  refine (asw_f (by decide)).trans ?_
  refine (asw_f (by decide)).trans ?_
  refine (asw_f (by decide)).trans ?_
  refine (asw_f (by decide)).trans ?_
  refine (asw_f (by decide)).trans ?_
  refine (asw_f (by decide)).trans ?_
  refine (asw_f (by decide)).trans ?_
  refine (asw_f (by decide)).trans ?_
  refine (asw_f (by decide)).trans ?_
  refine (asw_f (by decide)).trans ?_
  refine (asw_f (by decide)).trans ?_
  refine (asw_f (by decide)).trans ?_
  refine (asw_t (by decide)).trans ?_
  refine (r_aloadn f333_856 rfl).trans ?_
  refine (r_aloadnX f333_857 rfl).trans ?_
  refine (r_iloadn f333_858 rfl).trans ?_
  refine (r_iconst (v := 1) f333_859 rfl).trans ?_
  refine (r_iadd (v := 1) f333_860 (by decide)).trans ?_
  refine (r_xld (v := (xs 1)) f333_861 hX (by decide) rfl).trans ?_
  refine (r_aloadnX f333_862 rfl).trans ?_
  refine (r_iloadn f333_863 rfl).trans ?_
  refine (r_iconst (v := 2) f333_864 rfl).trans ?_
  refine (r_iadd (v := 2) f333_865 (by decide)).trans ?_
  refine (r_xld (v := (xs 2)) f333_866 hX (by decide) rfl).trans ?_
  refine (r_virt (as := [.int (xs 1), .int (xs 2)]) (v := (some (.int v))) (h1 := h1) f333_867 zh0 zg162 rfl rfl rfl rfl rfl rfl (ce (by omega) (e1 X (n + 1976) (d + 9)))).trans ?_
  refine (r_aloadn f333_870 rfl).trans ?_
  refine (r_aloadnX f333_871 rfl).trans ?_
  refine (r_iloadn f333_872 rfl).trans ?_
  refine (r_iconst (v := 1) f333_873 rfl).trans ?_
  refine (r_iadd (v := 1) f333_874 (by decide)).trans ?_
  refine (r_xld (v := (xs 1)) f333_875 hX (by decide) rfl).trans ?_
  refine (r_aloadnX f333_876 rfl).trans ?_
  refine (r_iloadn f333_877 rfl).trans ?_
  refine (r_iconst (v := 2) f333_878 rfl).trans ?_
  refine (r_iadd (v := 2) f333_879 (by decide)).trans ?_
  refine (r_xld (v := (xs 2)) f333_880 hX (by decide) rfl).trans ?_
  refine (r_virt (as := [.int (xs 1), .int (xs 2)]) (v := (some (.int v))) (h1 := h2) f333_881 g72 zg244 rfl rfl rfl rfl rfl rfl (ce (by omega) (e2 X (n + 1964) (d + 9)))).trans ?_
  refine (r_icmp_eq_t f333_884 rfl).trans ?_
  refine (r_iinc (v := 6) (L' := [some (.retAddr 1), some (.ref 0), some (.ref 72), some (.int 6)]) f333_2076 rfl rfl rfl).trans ?_
  refine (r_goto f333_2079).trans ?_
  refine (r_iloadn f333_18 rfl).trans ?_
  refine (r_aloadnX f333_19 rfl).trans ?_
  refine (r_xlen (v := 6) f333_20 hX rfl).trans ?_
  refine (r_bipush (v := 6) f333_21 rfl).trans ?_
  refine (r_isub (v := 0) f333_23 (by decide)).trans ?_
  refine (r_icmp_gt_t f333_24 (by decide)).trans ?_
  refine (r_iconst (v := 1) f333_2082 rfl).trans ?_
  exact r_zreturn f333_2083 rfl (by decide)
set_option maxRecDepth 20000 in
theorem lc_19 {X : aX} {xs : Nat → Int32} (hX : X 1 = some (6, xs)) (hk : xs 0 &&& 63 = 19) : ∃ h2 : aH, (∀ n d : Nat, arun X (n + 1002000) (d + 30) zM333 18 [some (.retAddr 1), some (.ref 0), some (.ref 72), some (.int 0)] [] zH0 = some (some (.int 1), h2)) ∧ h2.1.length ≤ 600000 ∧ h2.2 ≤ 7302250 := by
  obtain ⟨v, h1, h2, e1, e2, g72, s1, s2⟩ := pc_19 (xs 1) (xs 2) (xs 3)
  refine ⟨h2, fun n d => ?_, s1, s2⟩
  refine (r_iloadn f333_18 rfl).trans ?_
  refine (r_aloadnX f333_19 rfl).trans ?_
  refine (r_xlen (v := 6) f333_20 hX rfl).trans ?_
  refine (r_bipush (v := 6) f333_21 rfl).trans ?_
  refine (r_isub (v := 0) f333_23 (by decide)).trans ?_
  refine (r_icmp_gt_f f333_24 (by decide)).trans ?_
  refine (r_aloadnX f333_27 rfl).trans ?_
  refine (r_iloadn f333_28 rfl).trans ?_
  refine (r_xld (v := (xs 0)) f333_29 hX (by decide) rfl).trans ?_
  refine (r_bipush (v := 63) f333_30 rfl).trans ?_
  refine (r_iand (v := 19) f333_32 hk).trans ?_
  refine (r_tsw f333_33).trans ?_
  refine (asw_f (by decide)).trans ?_
  refine (asw_f (by decide)).trans ?_
  refine (asw_f (by decide)).trans ?_
  refine (asw_f (by decide)).trans ?_
  refine (asw_f (by decide)).trans ?_
  refine (asw_f (by decide)).trans ?_
  refine (asw_f (by decide)).trans ?_
  refine (asw_f (by decide)).trans ?_
  refine (asw_f (by decide)).trans ?_
  refine (asw_f (by decide)).trans ?_
  refine (asw_f (by decide)).trans ?_
  refine (asw_f (by decide)).trans ?_
  refine (asw_f (by decide)).trans ?_
  refine (asw_f (by decide)).trans ?_
  refine (asw_f (by decide)).trans ?_
  refine (asw_f (by decide)).trans ?_
  refine (asw_f (by decide)).trans ?_
  refine (asw_f (by decide)).trans ?_
  refine (asw_f (by decide)).trans ?_
  refine (asw_t (by decide)).trans ?_
  refine (r_aloadn f333_889 rfl).trans ?_
  refine (r_aloadnX f333_890 rfl).trans ?_
  refine (r_iloadn f333_891 rfl).trans ?_
  refine (r_iconst (v := 1) f333_892 rfl).trans ?_
  refine (r_iadd (v := 1) f333_893 (by decide)).trans ?_
  refine (r_xld (v := (xs 1)) f333_894 hX (by decide) rfl).trans ?_
  refine (r_aloadnX f333_895 rfl).trans ?_
  refine (r_iloadn f333_896 rfl).trans ?_
  refine (r_iconst (v := 2) f333_897 rfl).trans ?_
  refine (r_iadd (v := 2) f333_898 (by decide)).trans ?_
  refine (r_xld (v := (xs 2)) f333_899 hX (by decide) rfl).trans ?_
  refine (r_aloadnX f333_900 rfl).trans ?_
  refine (r_iloadn f333_901 rfl).trans ?_
  refine (r_iconst (v := 3) f333_902 rfl).trans ?_
  refine (r_iadd (v := 3) f333_903 (by decide)).trans ?_
  refine (r_xld (v := (xs 3)) f333_904 hX (by decide) rfl).trans ?_
  refine (r_virt (as := [.int (xs 1), .int (xs 2), .int (xs 3)]) (v := (some (.int v))) (h1 := h1) f333_905 zh0 zg163 rfl rfl rfl rfl rfl rfl (ce (by omega) (e1 X (n + 1971) (d + 9)))).trans ?_
  refine (r_aloadn f333_908 rfl).trans ?_
  refine (r_aloadnX f333_909 rfl).trans ?_
  refine (r_iloadn f333_910 rfl).trans ?_
  refine (r_iconst (v := 1) f333_911 rfl).trans ?_
  refine (r_iadd (v := 1) f333_912 (by decide)).trans ?_
  refine (r_xld (v := (xs 1)) f333_913 hX (by decide) rfl).trans ?_
  refine (r_aloadnX f333_914 rfl).trans ?_
  refine (r_iloadn f333_915 rfl).trans ?_
  refine (r_iconst (v := 2) f333_916 rfl).trans ?_
  refine (r_iadd (v := 2) f333_917 (by decide)).trans ?_
  refine (r_xld (v := (xs 2)) f333_918 hX (by decide) rfl).trans ?_
  refine (r_aloadnX f333_919 rfl).trans ?_
  refine (r_iloadn f333_920 rfl).trans ?_
  refine (r_iconst (v := 3) f333_921 rfl).trans ?_
  refine (r_iadd (v := 3) f333_922 (by decide)).trans ?_
  refine (r_xld (v := (xs 3)) f333_923 hX (by decide) rfl).trans ?_
  refine (r_virt (as := [.int (xs 1), .int (xs 2), .int (xs 3)]) (v := (some (.int v))) (h1 := h2) f333_924 g72 zg245 rfl rfl rfl rfl rfl rfl (ce (by omega) (e2 X (n + 1954) (d + 9)))).trans ?_
  refine (r_icmp_eq_t f333_927 rfl).trans ?_
  refine (r_iinc (v := 6) (L' := [some (.retAddr 1), some (.ref 0), some (.ref 72), some (.int 6)]) f333_2076 rfl rfl rfl).trans ?_
  refine (r_goto f333_2079).trans ?_
  refine (r_iloadn f333_18 rfl).trans ?_
  refine (r_aloadnX f333_19 rfl).trans ?_
  refine (r_xlen (v := 6) f333_20 hX rfl).trans ?_
  refine (r_bipush (v := 6) f333_21 rfl).trans ?_
  refine (r_isub (v := 0) f333_23 (by decide)).trans ?_
  refine (r_icmp_gt_t f333_24 (by decide)).trans ?_
  refine (r_iconst (v := 1) f333_2082 rfl).trans ?_
  exact r_zreturn f333_2083 rfl (by decide)
set_option maxRecDepth 20000 in
theorem lc_20 {X : aX} {xs : Nat → Int32} (hX : X 1 = some (6, xs)) (hk : xs 0 &&& 63 = 20) : ∃ h2 : aH, (∀ n d : Nat, arun X (n + 1002000) (d + 30) zM333 18 [some (.retAddr 1), some (.ref 0), some (.ref 72), some (.int 0)] [] zH0 = some (some (.int 1), h2)) ∧ h2.1.length ≤ 600000 ∧ h2.2 ≤ 7302250 := by
  obtain ⟨v, h1, h2, e1, e2, g72, s1, s2⟩ := pc_20 (xs 1) (xs 2) (xs 3) (xs 4)
  refine ⟨h2, fun n d => ?_, s1, s2⟩
  refine (r_iloadn f333_18 rfl).trans ?_
  refine (r_aloadnX f333_19 rfl).trans ?_
  refine (r_xlen (v := 6) f333_20 hX rfl).trans ?_
  refine (r_bipush (v := 6) f333_21 rfl).trans ?_
  refine (r_isub (v := 0) f333_23 (by decide)).trans ?_
  refine (r_icmp_gt_f f333_24 (by decide)).trans ?_
  refine (r_aloadnX f333_27 rfl).trans ?_
  refine (r_iloadn f333_28 rfl).trans ?_
  refine (r_xld (v := (xs 0)) f333_29 hX (by decide) rfl).trans ?_
  refine (r_bipush (v := 63) f333_30 rfl).trans ?_
  refine (r_iand (v := 20) f333_32 hk).trans ?_
  refine (r_tsw f333_33).trans ?_
  refine (asw_f (by decide)).trans ?_
  refine (asw_f (by decide)).trans ?_
  refine (asw_f (by decide)).trans ?_
  refine (asw_f (by decide)).trans ?_
  refine (asw_f (by decide)).trans ?_
  refine (asw_f (by decide)).trans ?_
  refine (asw_f (by decide)).trans ?_
  refine (asw_f (by decide)).trans ?_
  refine (asw_f (by decide)).trans ?_
  refine (asw_f (by decide)).trans ?_
  refine (asw_f (by decide)).trans ?_
  refine (asw_f (by decide)).trans ?_
  refine (asw_f (by decide)).trans ?_
  refine (asw_f (by decide)).trans ?_
  refine (asw_f (by decide)).trans ?_
  refine (asw_f (by decide)).trans ?_
  refine (asw_f (by decide)).trans ?_
  refine (asw_f (by decide)).trans ?_
  refine (asw_f (by decide)).trans ?_
  refine (asw_f (by decide)).trans ?_
  refine (asw_t (by decide)).trans ?_
  refine (r_aloadn f333_932 rfl).trans ?_
  refine (r_aloadnX f333_933 rfl).trans ?_
  refine (r_iloadn f333_934 rfl).trans ?_
  refine (r_iconst (v := 1) f333_935 rfl).trans ?_
  refine (r_iadd (v := 1) f333_936 (by decide)).trans ?_
  refine (r_xld (v := (xs 1)) f333_937 hX (by decide) rfl).trans ?_
  refine (r_aloadnX f333_938 rfl).trans ?_
  refine (r_iloadn f333_939 rfl).trans ?_
  refine (r_iconst (v := 2) f333_940 rfl).trans ?_
  refine (r_iadd (v := 2) f333_941 (by decide)).trans ?_
  refine (r_xld (v := (xs 2)) f333_942 hX (by decide) rfl).trans ?_
  refine (r_aloadnX f333_943 rfl).trans ?_
  refine (r_iloadn f333_944 rfl).trans ?_
  refine (r_iconst (v := 3) f333_945 rfl).trans ?_
  refine (r_iadd (v := 3) f333_946 (by decide)).trans ?_
  refine (r_xld (v := (xs 3)) f333_947 hX (by decide) rfl).trans ?_
  refine (r_aloadnX f333_948 rfl).trans ?_
  refine (r_iloadn f333_949 rfl).trans ?_
  refine (r_iconst (v := 4) f333_950 rfl).trans ?_
  refine (r_iadd (v := 4) f333_951 (by decide)).trans ?_
  refine (r_xld (v := (xs 4)) f333_952 hX (by decide) rfl).trans ?_
  refine (r_virt (as := [.int (xs 1), .int (xs 2), .int (xs 3), .int (xs 4)]) (v := (some (.int v))) (h1 := h1) f333_953 zh0 zg164 rfl rfl rfl rfl rfl rfl (ce (by omega) (e1 X (n + 1966) (d + 9)))).trans ?_
  refine (r_aloadn f333_956 rfl).trans ?_
  refine (r_aloadnX f333_957 rfl).trans ?_
  refine (r_iloadn f333_958 rfl).trans ?_
  refine (r_iconst (v := 1) f333_959 rfl).trans ?_
  refine (r_iadd (v := 1) f333_960 (by decide)).trans ?_
  refine (r_xld (v := (xs 1)) f333_961 hX (by decide) rfl).trans ?_
  refine (r_aloadnX f333_962 rfl).trans ?_
  refine (r_iloadn f333_963 rfl).trans ?_
  refine (r_iconst (v := 2) f333_964 rfl).trans ?_
  refine (r_iadd (v := 2) f333_965 (by decide)).trans ?_
  refine (r_xld (v := (xs 2)) f333_966 hX (by decide) rfl).trans ?_
  refine (r_aloadnX f333_967 rfl).trans ?_
  refine (r_iloadn f333_968 rfl).trans ?_
  refine (r_iconst (v := 3) f333_969 rfl).trans ?_
  refine (r_iadd (v := 3) f333_970 (by decide)).trans ?_
  refine (r_xld (v := (xs 3)) f333_971 hX (by decide) rfl).trans ?_
  refine (r_aloadnX f333_972 rfl).trans ?_
  refine (r_iloadn f333_973 rfl).trans ?_
  refine (r_iconst (v := 4) f333_974 rfl).trans ?_
  refine (r_iadd (v := 4) f333_975 (by decide)).trans ?_
  refine (r_xld (v := (xs 4)) f333_976 hX (by decide) rfl).trans ?_
  refine (r_virt (as := [.int (xs 1), .int (xs 2), .int (xs 3), .int (xs 4)]) (v := (some (.int v))) (h1 := h2) f333_977 g72 zg247 rfl rfl rfl rfl rfl rfl (ce (by omega) (e2 X (n + 1944) (d + 9)))).trans ?_
  refine (r_icmp_eq_t f333_980 rfl).trans ?_
  refine (r_iinc (v := 6) (L' := [some (.retAddr 1), some (.ref 0), some (.ref 72), some (.int 6)]) f333_2076 rfl rfl rfl).trans ?_
  refine (r_goto f333_2079).trans ?_
  refine (r_iloadn f333_18 rfl).trans ?_
  refine (r_aloadnX f333_19 rfl).trans ?_
  refine (r_xlen (v := 6) f333_20 hX rfl).trans ?_
  refine (r_bipush (v := 6) f333_21 rfl).trans ?_
  refine (r_isub (v := 0) f333_23 (by decide)).trans ?_
  refine (r_icmp_gt_t f333_24 (by decide)).trans ?_
  refine (r_iconst (v := 1) f333_2082 rfl).trans ?_
  exact r_zreturn f333_2083 rfl (by decide)
set_option maxRecDepth 20000 in
theorem lc_21 {X : aX} {xs : Nat → Int32} (hX : X 1 = some (6, xs)) (hk : xs 0 &&& 63 = 21) : ∃ h2 : aH, (∀ n d : Nat, arun X (n + 1002000) (d + 30) zM333 18 [some (.retAddr 1), some (.ref 0), some (.ref 72), some (.int 0)] [] zH0 = some (some (.int 1), h2)) ∧ h2.1.length ≤ 600000 ∧ h2.2 ≤ 7302250 := by
  obtain ⟨v, h1, h2, e1, e2, g72, s1, s2⟩ := pc_21 (xs 1)
  refine ⟨h2, fun n d => ?_, s1, s2⟩
  refine (r_iloadn f333_18 rfl).trans ?_
  refine (r_aloadnX f333_19 rfl).trans ?_
  refine (r_xlen (v := 6) f333_20 hX rfl).trans ?_
  refine (r_bipush (v := 6) f333_21 rfl).trans ?_
  refine (r_isub (v := 0) f333_23 (by decide)).trans ?_
  refine (r_icmp_gt_f f333_24 (by decide)).trans ?_
  refine (r_aloadnX f333_27 rfl).trans ?_
  refine (r_iloadn f333_28 rfl).trans ?_
  refine (r_xld (v := (xs 0)) f333_29 hX (by decide) rfl).trans ?_
  refine (r_bipush (v := 63) f333_30 rfl).trans ?_
  refine (r_iand (v := 21) f333_32 hk).trans ?_
  refine (r_tsw f333_33).trans ?_
  refine (asw_f (by decide)).trans ?_
  refine (asw_f (by decide)).trans ?_
  refine (asw_f (by decide)).trans ?_
  refine (asw_f (by decide)).trans ?_
  refine (asw_f (by decide)).trans ?_
  refine (asw_f (by decide)).trans ?_
  refine (asw_f (by decide)).trans ?_
  refine (asw_f (by decide)).trans ?_
  refine (asw_f (by decide)).trans ?_
  refine (asw_f (by decide)).trans ?_
  refine (asw_f (by decide)).trans ?_
  refine (asw_f (by decide)).trans ?_
  refine (asw_f (by decide)).trans ?_
  refine (asw_f (by decide)).trans ?_
  refine (asw_f (by decide)).trans ?_
  refine (asw_f (by decide)).trans ?_
  refine (asw_f (by decide)).trans ?_
  refine (asw_f (by decide)).trans ?_
  refine (asw_f (by decide)).trans ?_
  refine (asw_f (by decide)).trans ?_
  refine (asw_f (by decide)).trans ?_
  refine (asw_t (by decide)).trans ?_
  refine (r_aloadn f333_985 rfl).trans ?_
  refine (r_aloadnX f333_986 rfl).trans ?_
  refine (r_iloadn f333_987 rfl).trans ?_
  refine (r_iconst (v := 1) f333_988 rfl).trans ?_
  refine (r_iadd (v := 1) f333_989 (by decide)).trans ?_
  refine (r_xld (v := (xs 1)) f333_990 hX (by decide) rfl).trans ?_
  refine (r_virt (as := [.int (xs 1)]) (v := (some (.int v))) (h1 := h1) f333_991 zh0 zg165 rfl rfl rfl rfl rfl rfl (ce (by omega) (e1 X (n + 1981) (d + 9)))).trans ?_
  refine (r_aloadn f333_994 rfl).trans ?_
  refine (r_aloadnX f333_995 rfl).trans ?_
  refine (r_iloadn f333_996 rfl).trans ?_
  refine (r_iconst (v := 1) f333_997 rfl).trans ?_
  refine (r_iadd (v := 1) f333_998 (by decide)).trans ?_
  refine (r_xld (v := (xs 1)) f333_999 hX (by decide) rfl).trans ?_
  refine (r_virt (as := [.int (xs 1)]) (v := (some (.int v))) (h1 := h2) f333_1000 g72 zg246 rfl rfl rfl rfl rfl rfl (ce (by omega) (e2 X (n + 1974) (d + 9)))).trans ?_
  refine (r_icmp_eq_t f333_1003 rfl).trans ?_
  refine (r_iinc (v := 6) (L' := [some (.retAddr 1), some (.ref 0), some (.ref 72), some (.int 6)]) f333_2076 rfl rfl rfl).trans ?_
  refine (r_goto f333_2079).trans ?_
  refine (r_iloadn f333_18 rfl).trans ?_
  refine (r_aloadnX f333_19 rfl).trans ?_
  refine (r_xlen (v := 6) f333_20 hX rfl).trans ?_
  refine (r_bipush (v := 6) f333_21 rfl).trans ?_
  refine (r_isub (v := 0) f333_23 (by decide)).trans ?_
  refine (r_icmp_gt_t f333_24 (by decide)).trans ?_
  refine (r_iconst (v := 1) f333_2082 rfl).trans ?_
  exact r_zreturn f333_2083 rfl (by decide)
set_option maxRecDepth 20000 in
theorem lc_22 {X : aX} {xs : Nat → Int32} (hX : X 1 = some (6, xs)) (hk : xs 0 &&& 63 = 22) : ∃ h2 : aH, (∀ n d : Nat, arun X (n + 1002000) (d + 30) zM333 18 [some (.retAddr 1), some (.ref 0), some (.ref 72), some (.int 0)] [] zH0 = some (some (.int 1), h2)) ∧ h2.1.length ≤ 600000 ∧ h2.2 ≤ 7302250 := by
  obtain ⟨v, h1, h2, e1, e2, g72, s1, s2⟩ := pc_22 (xs 1) (xs 2) (xs 3)
  refine ⟨h2, fun n d => ?_, s1, s2⟩
  refine (r_iloadn f333_18 rfl).trans ?_
  refine (r_aloadnX f333_19 rfl).trans ?_
  refine (r_xlen (v := 6) f333_20 hX rfl).trans ?_
  refine (r_bipush (v := 6) f333_21 rfl).trans ?_
  refine (r_isub (v := 0) f333_23 (by decide)).trans ?_
  refine (r_icmp_gt_f f333_24 (by decide)).trans ?_
  refine (r_aloadnX f333_27 rfl).trans ?_
  refine (r_iloadn f333_28 rfl).trans ?_
  refine (r_xld (v := (xs 0)) f333_29 hX (by decide) rfl).trans ?_
  refine (r_bipush (v := 63) f333_30 rfl).trans ?_
  refine (r_iand (v := 22) f333_32 hk).trans ?_
  refine (r_tsw f333_33).trans ?_
  refine (asw_f (by decide)).trans ?_
  refine (asw_f (by decide)).trans ?_
  refine (asw_f (by decide)).trans ?_
  refine (asw_f (by decide)).trans ?_
  refine (asw_f (by decide)).trans ?_
  refine (asw_f (by decide)).trans ?_
  refine (asw_f (by decide)).trans ?_
  refine (asw_f (by decide)).trans ?_
  refine (asw_f (by decide)).trans ?_
  refine (asw_f (by decide)).trans ?_
  refine (asw_f (by decide)).trans ?_
  refine (asw_f (by decide)).trans ?_
  refine (asw_f (by decide)).trans ?_
  refine (asw_f (by decide)).trans ?_
  refine (asw_f (by decide)).trans ?_
  refine (asw_f (by decide)).trans ?_
  refine (asw_f (by decide)).trans ?_
  refine (asw_f (by decide)).trans ?_
  refine (asw_f (by decide)).trans ?_
  refine (asw_f (by decide)).trans ?_
  refine (asw_f (by decide)).trans ?_
  refine (asw_f (by decide)).trans ?_
  refine (asw_t (by decide)).trans ?_
  refine (r_aloadn f333_1008 rfl).trans ?_
  refine (r_aloadnX f333_1009 rfl).trans ?_
  refine (r_iloadn f333_1010 rfl).trans ?_
  refine (r_iconst (v := 1) f333_1011 rfl).trans ?_
  refine (r_iadd (v := 1) f333_1012 (by decide)).trans ?_
  refine (r_xld (v := (xs 1)) f333_1013 hX (by decide) rfl).trans ?_
  refine (r_aloadnX f333_1014 rfl).trans ?_
  refine (r_iloadn f333_1015 rfl).trans ?_
  refine (r_iconst (v := 2) f333_1016 rfl).trans ?_
  refine (r_iadd (v := 2) f333_1017 (by decide)).trans ?_
  refine (r_xld (v := (xs 2)) f333_1018 hX (by decide) rfl).trans ?_
  refine (r_aloadnX f333_1019 rfl).trans ?_
  refine (r_iloadn f333_1020 rfl).trans ?_
  refine (r_iconst (v := 3) f333_1021 rfl).trans ?_
  refine (r_iadd (v := 3) f333_1022 (by decide)).trans ?_
  refine (r_xld (v := (xs 3)) f333_1023 hX (by decide) rfl).trans ?_
  refine (r_virt (as := [.int (xs 1), .int (xs 2), .int (xs 3)]) (v := (some (.int v))) (h1 := h1) f333_1024 zh0 zg166 rfl rfl rfl rfl rfl rfl (ce (by omega) (e1 X (n + 1971) (d + 9)))).trans ?_
  refine (r_aloadn f333_1027 rfl).trans ?_
  refine (r_aloadnX f333_1028 rfl).trans ?_
  refine (r_iloadn f333_1029 rfl).trans ?_
  refine (r_iconst (v := 1) f333_1030 rfl).trans ?_
  refine (r_iadd (v := 1) f333_1031 (by decide)).trans ?_
  refine (r_xld (v := (xs 1)) f333_1032 hX (by decide) rfl).trans ?_
  refine (r_aloadnX f333_1033 rfl).trans ?_
  refine (r_iloadn f333_1034 rfl).trans ?_
  refine (r_iconst (v := 2) f333_1035 rfl).trans ?_
  refine (r_iadd (v := 2) f333_1036 (by decide)).trans ?_
  refine (r_xld (v := (xs 2)) f333_1037 hX (by decide) rfl).trans ?_
  refine (r_aloadnX f333_1038 rfl).trans ?_
  refine (r_iloadn f333_1039 rfl).trans ?_
  refine (r_iconst (v := 3) f333_1040 rfl).trans ?_
  refine (r_iadd (v := 3) f333_1041 (by decide)).trans ?_
  refine (r_xld (v := (xs 3)) f333_1042 hX (by decide) rfl).trans ?_
  refine (r_virt (as := [.int (xs 1), .int (xs 2), .int (xs 3)]) (v := (some (.int v))) (h1 := h2) f333_1043 g72 zg249 rfl rfl rfl rfl rfl rfl (ce (by omega) (e2 X (n + 1954) (d + 9)))).trans ?_
  refine (r_icmp_eq_t f333_1046 rfl).trans ?_
  refine (r_iinc (v := 6) (L' := [some (.retAddr 1), some (.ref 0), some (.ref 72), some (.int 6)]) f333_2076 rfl rfl rfl).trans ?_
  refine (r_goto f333_2079).trans ?_
  refine (r_iloadn f333_18 rfl).trans ?_
  refine (r_aloadnX f333_19 rfl).trans ?_
  refine (r_xlen (v := 6) f333_20 hX rfl).trans ?_
  refine (r_bipush (v := 6) f333_21 rfl).trans ?_
  refine (r_isub (v := 0) f333_23 (by decide)).trans ?_
  refine (r_icmp_gt_t f333_24 (by decide)).trans ?_
  refine (r_iconst (v := 1) f333_2082 rfl).trans ?_
  exact r_zreturn f333_2083 rfl (by decide)
set_option maxRecDepth 20000 in
theorem lc_23 {X : aX} {xs : Nat → Int32} (hX : X 1 = some (6, xs)) (hk : xs 0 &&& 63 = 23) : ∃ h2 : aH, (∀ n d : Nat, arun X (n + 1002000) (d + 30) zM333 18 [some (.retAddr 1), some (.ref 0), some (.ref 72), some (.int 0)] [] zH0 = some (some (.int 1), h2)) ∧ h2.1.length ≤ 600000 ∧ h2.2 ≤ 7302250 := by
  obtain ⟨v, h1, h2, e1, e2, g72, s1, s2⟩ := pc_23 (xs 1) (xs 2)
  refine ⟨h2, fun n d => ?_, s1, s2⟩
  refine (r_iloadn f333_18 rfl).trans ?_
  refine (r_aloadnX f333_19 rfl).trans ?_
  refine (r_xlen (v := 6) f333_20 hX rfl).trans ?_
  refine (r_bipush (v := 6) f333_21 rfl).trans ?_
  refine (r_isub (v := 0) f333_23 (by decide)).trans ?_
  refine (r_icmp_gt_f f333_24 (by decide)).trans ?_
  refine (r_aloadnX f333_27 rfl).trans ?_
  refine (r_iloadn f333_28 rfl).trans ?_
  refine (r_xld (v := (xs 0)) f333_29 hX (by decide) rfl).trans ?_
  refine (r_bipush (v := 63) f333_30 rfl).trans ?_
  refine (r_iand (v := 23) f333_32 hk).trans ?_
  refine (r_tsw f333_33).trans ?_
  refine (asw_f (by decide)).trans ?_
  refine (asw_f (by decide)).trans ?_
  refine (asw_f (by decide)).trans ?_
  refine (asw_f (by decide)).trans ?_
  refine (asw_f (by decide)).trans ?_
  refine (asw_f (by decide)).trans ?_
  refine (asw_f (by decide)).trans ?_
  refine (asw_f (by decide)).trans ?_
  refine (asw_f (by decide)).trans ?_
  refine (asw_f (by decide)).trans ?_
  refine (asw_f (by decide)).trans ?_
  refine (asw_f (by decide)).trans ?_
  refine (asw_f (by decide)).trans ?_
  refine (asw_f (by decide)).trans ?_
  refine (asw_f (by decide)).trans ?_
  refine (asw_f (by decide)).trans ?_
  refine (asw_f (by decide)).trans ?_
  refine (asw_f (by decide)).trans ?_
  refine (asw_f (by decide)).trans ?_
  refine (asw_f (by decide)).trans ?_
  refine (asw_f (by decide)).trans ?_
  refine (asw_f (by decide)).trans ?_
  refine (asw_f (by decide)).trans ?_
  refine (asw_t (by decide)).trans ?_
  refine (r_aloadn f333_1051 rfl).trans ?_
  refine (r_aloadnX f333_1052 rfl).trans ?_
  refine (r_iloadn f333_1053 rfl).trans ?_
  refine (r_iconst (v := 1) f333_1054 rfl).trans ?_
  refine (r_iadd (v := 1) f333_1055 (by decide)).trans ?_
  refine (r_xld (v := (xs 1)) f333_1056 hX (by decide) rfl).trans ?_
  refine (r_aloadnX f333_1057 rfl).trans ?_
  refine (r_iloadn f333_1058 rfl).trans ?_
  refine (r_iconst (v := 2) f333_1059 rfl).trans ?_
  refine (r_iadd (v := 2) f333_1060 (by decide)).trans ?_
  refine (r_xld (v := (xs 2)) f333_1061 hX (by decide) rfl).trans ?_
  refine (r_virt (as := [.int (xs 1), .int (xs 2)]) (v := (some (.int v))) (h1 := h1) f333_1062 zh0 zg167 rfl rfl rfl rfl rfl rfl (ce (by omega) (e1 X (n + 1976) (d + 9)))).trans ?_
  refine (r_aloadn f333_1065 rfl).trans ?_
  refine (r_aloadnX f333_1066 rfl).trans ?_
  refine (r_iloadn f333_1067 rfl).trans ?_
  refine (r_iconst (v := 1) f333_1068 rfl).trans ?_
  refine (r_iadd (v := 1) f333_1069 (by decide)).trans ?_
  refine (r_xld (v := (xs 1)) f333_1070 hX (by decide) rfl).trans ?_
  refine (r_aloadnX f333_1071 rfl).trans ?_
  refine (r_iloadn f333_1072 rfl).trans ?_
  refine (r_iconst (v := 2) f333_1073 rfl).trans ?_
  refine (r_iadd (v := 2) f333_1074 (by decide)).trans ?_
  refine (r_xld (v := (xs 2)) f333_1075 hX (by decide) rfl).trans ?_
  refine (r_virt (as := [.int (xs 1), .int (xs 2)]) (v := (some (.int v))) (h1 := h2) f333_1076 g72 zg250 rfl rfl rfl rfl rfl rfl (ce (by omega) (e2 X (n + 1964) (d + 9)))).trans ?_
  refine (r_icmp_eq_t f333_1079 rfl).trans ?_
  refine (r_iinc (v := 6) (L' := [some (.retAddr 1), some (.ref 0), some (.ref 72), some (.int 6)]) f333_2076 rfl rfl rfl).trans ?_
  refine (r_goto f333_2079).trans ?_
  refine (r_iloadn f333_18 rfl).trans ?_
  refine (r_aloadnX f333_19 rfl).trans ?_
  refine (r_xlen (v := 6) f333_20 hX rfl).trans ?_
  refine (r_bipush (v := 6) f333_21 rfl).trans ?_
  refine (r_isub (v := 0) f333_23 (by decide)).trans ?_
  refine (r_icmp_gt_t f333_24 (by decide)).trans ?_
  refine (r_iconst (v := 1) f333_2082 rfl).trans ?_
  exact r_zreturn f333_2083 rfl (by decide)
set_option maxRecDepth 20000 in
theorem lc_24 {X : aX} {xs : Nat → Int32} (hX : X 1 = some (6, xs)) (hk : xs 0 &&& 63 = 24) : ∃ h2 : aH, (∀ n d : Nat, arun X (n + 1002000) (d + 30) zM333 18 [some (.retAddr 1), some (.ref 0), some (.ref 72), some (.int 0)] [] zH0 = some (some (.int 1), h2)) ∧ h2.1.length ≤ 600000 ∧ h2.2 ≤ 7302250 := by
  obtain ⟨v, h1, h2, e1, e2, g72, s1, s2⟩ := pc_24 (xs 1) (xs 2)
  refine ⟨h2, fun n d => ?_, s1, s2⟩
  refine (r_iloadn f333_18 rfl).trans ?_
  refine (r_aloadnX f333_19 rfl).trans ?_
  refine (r_xlen (v := 6) f333_20 hX rfl).trans ?_
  refine (r_bipush (v := 6) f333_21 rfl).trans ?_
  refine (r_isub (v := 0) f333_23 (by decide)).trans ?_
  refine (r_icmp_gt_f f333_24 (by decide)).trans ?_
  refine (r_aloadnX f333_27 rfl).trans ?_
  refine (r_iloadn f333_28 rfl).trans ?_
  refine (r_xld (v := (xs 0)) f333_29 hX (by decide) rfl).trans ?_
  refine (r_bipush (v := 63) f333_30 rfl).trans ?_
  refine (r_iand (v := 24) f333_32 hk).trans ?_
  refine (r_tsw f333_33).trans ?_
  refine (asw_f (by decide)).trans ?_
  refine (asw_f (by decide)).trans ?_
  refine (asw_f (by decide)).trans ?_
  refine (asw_f (by decide)).trans ?_
  refine (asw_f (by decide)).trans ?_
  refine (asw_f (by decide)).trans ?_
  refine (asw_f (by decide)).trans ?_
  refine (asw_f (by decide)).trans ?_
  refine (asw_f (by decide)).trans ?_
  refine (asw_f (by decide)).trans ?_
  refine (asw_f (by decide)).trans ?_
  refine (asw_f (by decide)).trans ?_
  refine (asw_f (by decide)).trans ?_
  refine (asw_f (by decide)).trans ?_
  refine (asw_f (by decide)).trans ?_
  refine (asw_f (by decide)).trans ?_
  refine (asw_f (by decide)).trans ?_
  refine (asw_f (by decide)).trans ?_
  refine (asw_f (by decide)).trans ?_
  refine (asw_f (by decide)).trans ?_
  refine (asw_f (by decide)).trans ?_
  refine (asw_f (by decide)).trans ?_
  refine (asw_f (by decide)).trans ?_
  refine (asw_f (by decide)).trans ?_
  refine (asw_t (by decide)).trans ?_
  refine (r_aloadn f333_1084 rfl).trans ?_
  refine (r_aloadnX f333_1085 rfl).trans ?_
  refine (r_iloadn f333_1086 rfl).trans ?_
  refine (r_iconst (v := 1) f333_1087 rfl).trans ?_
  refine (r_iadd (v := 1) f333_1088 (by decide)).trans ?_
  refine (r_xld (v := (xs 1)) f333_1089 hX (by decide) rfl).trans ?_
  refine (r_aloadnX f333_1090 rfl).trans ?_
  refine (r_iloadn f333_1091 rfl).trans ?_
  refine (r_iconst (v := 2) f333_1092 rfl).trans ?_
  refine (r_iadd (v := 2) f333_1093 (by decide)).trans ?_
  refine (r_xld (v := (xs 2)) f333_1094 hX (by decide) rfl).trans ?_
  refine (r_virt (as := [.int (xs 1), .int (xs 2)]) (v := (some (.int v))) (h1 := h1) f333_1095 zh0 zg168 rfl rfl rfl rfl rfl rfl (ce (by omega) (e1 X (n + 1976) (d + 9)))).trans ?_
  refine (r_aloadn f333_1098 rfl).trans ?_
  refine (r_aloadnX f333_1099 rfl).trans ?_
  refine (r_iloadn f333_1100 rfl).trans ?_
  refine (r_iconst (v := 1) f333_1101 rfl).trans ?_
  refine (r_iadd (v := 1) f333_1102 (by decide)).trans ?_
  refine (r_xld (v := (xs 1)) f333_1103 hX (by decide) rfl).trans ?_
  refine (r_aloadnX f333_1104 rfl).trans ?_
  refine (r_iloadn f333_1105 rfl).trans ?_
  refine (r_iconst (v := 2) f333_1106 rfl).trans ?_
  refine (r_iadd (v := 2) f333_1107 (by decide)).trans ?_
  refine (r_xld (v := (xs 2)) f333_1108 hX (by decide) rfl).trans ?_
  refine (r_virt (as := [.int (xs 1), .int (xs 2)]) (v := (some (.int v))) (h1 := h2) f333_1109 g72 zg264 rfl rfl rfl rfl rfl rfl (ce (by omega) (e2 X (n + 1964) (d + 9)))).trans ?_
  refine (r_icmp_eq_t f333_1112 rfl).trans ?_
  refine (r_iinc (v := 6) (L' := [some (.retAddr 1), some (.ref 0), some (.ref 72), some (.int 6)]) f333_2076 rfl rfl rfl).trans ?_
  refine (r_goto f333_2079).trans ?_
  refine (r_iloadn f333_18 rfl).trans ?_
  refine (r_aloadnX f333_19 rfl).trans ?_
  refine (r_xlen (v := 6) f333_20 hX rfl).trans ?_
  refine (r_bipush (v := 6) f333_21 rfl).trans ?_
  refine (r_isub (v := 0) f333_23 (by decide)).trans ?_
  refine (r_icmp_gt_t f333_24 (by decide)).trans ?_
  refine (r_iconst (v := 1) f333_2082 rfl).trans ?_
  exact r_zreturn f333_2083 rfl (by decide)
set_option maxRecDepth 20000 in
theorem lc_25 {X : aX} {xs : Nat → Int32} (hX : X 1 = some (6, xs)) (hk : xs 0 &&& 63 = 25) : ∃ h2 : aH, (∀ n d : Nat, arun X (n + 1002000) (d + 30) zM333 18 [some (.retAddr 1), some (.ref 0), some (.ref 72), some (.int 0)] [] zH0 = some (some (.int 1), h2)) ∧ h2.1.length ≤ 600000 ∧ h2.2 ≤ 7302250 := by
  obtain ⟨v, h1, h2, e1, e2, g72, s1, s2⟩ := pc_25 (xs 1) (xs 2) (xs 3)
  refine ⟨h2, fun n d => ?_, s1, s2⟩
  refine (r_iloadn f333_18 rfl).trans ?_
  refine (r_aloadnX f333_19 rfl).trans ?_
  refine (r_xlen (v := 6) f333_20 hX rfl).trans ?_
  refine (r_bipush (v := 6) f333_21 rfl).trans ?_
  refine (r_isub (v := 0) f333_23 (by decide)).trans ?_
  refine (r_icmp_gt_f f333_24 (by decide)).trans ?_
  refine (r_aloadnX f333_27 rfl).trans ?_
  refine (r_iloadn f333_28 rfl).trans ?_
  refine (r_xld (v := (xs 0)) f333_29 hX (by decide) rfl).trans ?_
  refine (r_bipush (v := 63) f333_30 rfl).trans ?_
  refine (r_iand (v := 25) f333_32 hk).trans ?_
  refine (r_tsw f333_33).trans ?_
  refine (asw_f (by decide)).trans ?_
  refine (asw_f (by decide)).trans ?_
  refine (asw_f (by decide)).trans ?_
  refine (asw_f (by decide)).trans ?_
  refine (asw_f (by decide)).trans ?_
  refine (asw_f (by decide)).trans ?_
  refine (asw_f (by decide)).trans ?_
  refine (asw_f (by decide)).trans ?_
  refine (asw_f (by decide)).trans ?_
  refine (asw_f (by decide)).trans ?_
  refine (asw_f (by decide)).trans ?_
  refine (asw_f (by decide)).trans ?_
  refine (asw_f (by decide)).trans ?_
  refine (asw_f (by decide)).trans ?_
  refine (asw_f (by decide)).trans ?_
  refine (asw_f (by decide)).trans ?_
  refine (asw_f (by decide)).trans ?_
  refine (asw_f (by decide)).trans ?_
  refine (asw_f (by decide)).trans ?_
  refine (asw_f (by decide)).trans ?_
  refine (asw_f (by decide)).trans ?_
  refine (asw_f (by decide)).trans ?_
  refine (asw_f (by decide)).trans ?_
  refine (asw_f (by decide)).trans ?_
  refine (asw_f (by decide)).trans ?_
  refine (asw_t (by decide)).trans ?_
  refine (r_aloadn f333_1117 rfl).trans ?_
  refine (r_aloadnX f333_1118 rfl).trans ?_
  refine (r_iloadn f333_1119 rfl).trans ?_
  refine (r_iconst (v := 1) f333_1120 rfl).trans ?_
  refine (r_iadd (v := 1) f333_1121 (by decide)).trans ?_
  refine (r_xld (v := (xs 1)) f333_1122 hX (by decide) rfl).trans ?_
  refine (r_aloadnX f333_1123 rfl).trans ?_
  refine (r_iloadn f333_1124 rfl).trans ?_
  refine (r_iconst (v := 2) f333_1125 rfl).trans ?_
  refine (r_iadd (v := 2) f333_1126 (by decide)).trans ?_
  refine (r_xld (v := (xs 2)) f333_1127 hX (by decide) rfl).trans ?_
  refine (r_aloadnX f333_1128 rfl).trans ?_
  refine (r_iloadn f333_1129 rfl).trans ?_
  refine (r_iconst (v := 3) f333_1130 rfl).trans ?_
  refine (r_iadd (v := 3) f333_1131 (by decide)).trans ?_
  refine (r_xld (v := (xs 3)) f333_1132 hX (by decide) rfl).trans ?_
  refine (r_virt (as := [.int (xs 1), .int (xs 2), .int (xs 3)]) (v := (some (.int v))) (h1 := h1) f333_1133 zh0 zg169 rfl rfl rfl rfl rfl rfl (ce (by omega) (e1 X (n + 1971) (d + 9)))).trans ?_
  refine (r_aloadn f333_1136 rfl).trans ?_
  refine (r_aloadnX f333_1137 rfl).trans ?_
  refine (r_iloadn f333_1138 rfl).trans ?_
  refine (r_iconst (v := 1) f333_1139 rfl).trans ?_
  refine (r_iadd (v := 1) f333_1140 (by decide)).trans ?_
  refine (r_xld (v := (xs 1)) f333_1141 hX (by decide) rfl).trans ?_
  refine (r_aloadnX f333_1142 rfl).trans ?_
  refine (r_iloadn f333_1143 rfl).trans ?_
  refine (r_iconst (v := 2) f333_1144 rfl).trans ?_
  refine (r_iadd (v := 2) f333_1145 (by decide)).trans ?_
  refine (r_xld (v := (xs 2)) f333_1146 hX (by decide) rfl).trans ?_
  refine (r_aloadnX f333_1147 rfl).trans ?_
  refine (r_iloadn f333_1148 rfl).trans ?_
  refine (r_iconst (v := 3) f333_1149 rfl).trans ?_
  refine (r_iadd (v := 3) f333_1150 (by decide)).trans ?_
  refine (r_xld (v := (xs 3)) f333_1151 hX (by decide) rfl).trans ?_
  refine (r_virt (as := [.int (xs 1), .int (xs 2), .int (xs 3)]) (v := (some (.int v))) (h1 := h2) f333_1152 g72 zg266 rfl rfl rfl rfl rfl rfl (ce (by omega) (e2 X (n + 1954) (d + 9)))).trans ?_
  refine (r_icmp_eq_t f333_1155 rfl).trans ?_
  refine (r_iinc (v := 6) (L' := [some (.retAddr 1), some (.ref 0), some (.ref 72), some (.int 6)]) f333_2076 rfl rfl rfl).trans ?_
  refine (r_goto f333_2079).trans ?_
  refine (r_iloadn f333_18 rfl).trans ?_
  refine (r_aloadnX f333_19 rfl).trans ?_
  refine (r_xlen (v := 6) f333_20 hX rfl).trans ?_
  refine (r_bipush (v := 6) f333_21 rfl).trans ?_
  refine (r_isub (v := 0) f333_23 (by decide)).trans ?_
  refine (r_icmp_gt_t f333_24 (by decide)).trans ?_
  refine (r_iconst (v := 1) f333_2082 rfl).trans ?_
  exact r_zreturn f333_2083 rfl (by decide)
set_option maxRecDepth 20000 in
theorem lc_26 {X : aX} {xs : Nat → Int32} (hX : X 1 = some (6, xs)) (hk : xs 0 &&& 63 = 26) : ∃ h2 : aH, (∀ n d : Nat, arun X (n + 1002000) (d + 30) zM333 18 [some (.retAddr 1), some (.ref 0), some (.ref 72), some (.int 0)] [] zH0 = some (some (.int 1), h2)) ∧ h2.1.length ≤ 600000 ∧ h2.2 ≤ 7302250 := by
  obtain ⟨v, h1, h2, e1, e2, g72, s1, s2⟩ := pc_26 (xs 1) (xs 2) (xs 3) (xs 4)
  refine ⟨h2, fun n d => ?_, s1, s2⟩
  refine (r_iloadn f333_18 rfl).trans ?_
  refine (r_aloadnX f333_19 rfl).trans ?_
  refine (r_xlen (v := 6) f333_20 hX rfl).trans ?_
  refine (r_bipush (v := 6) f333_21 rfl).trans ?_
  refine (r_isub (v := 0) f333_23 (by decide)).trans ?_
  refine (r_icmp_gt_f f333_24 (by decide)).trans ?_
  refine (r_aloadnX f333_27 rfl).trans ?_
  refine (r_iloadn f333_28 rfl).trans ?_
  refine (r_xld (v := (xs 0)) f333_29 hX (by decide) rfl).trans ?_
  refine (r_bipush (v := 63) f333_30 rfl).trans ?_
  refine (r_iand (v := 26) f333_32 hk).trans ?_
  refine (r_tsw f333_33).trans ?_
  refine (asw_f (by decide)).trans ?_
  refine (asw_f (by decide)).trans ?_
  refine (asw_f (by decide)).trans ?_
  refine (asw_f (by decide)).trans ?_
  refine (asw_f (by decide)).trans ?_
  refine (asw_f (by decide)).trans ?_
  refine (asw_f (by decide)).trans ?_
  refine (asw_f (by decide)).trans ?_
  refine (asw_f (by decide)).trans ?_
  refine (asw_f (by decide)).trans ?_
  refine (asw_f (by decide)).trans ?_
  refine (asw_f (by decide)).trans ?_
  refine (asw_f (by decide)).trans ?_
  refine (asw_f (by decide)).trans ?_
  refine (asw_f (by decide)).trans ?_
  refine (asw_f (by decide)).trans ?_
  refine (asw_f (by decide)).trans ?_
  refine (asw_f (by decide)).trans ?_
  refine (asw_f (by decide)).trans ?_
  refine (asw_f (by decide)).trans ?_
  refine (asw_f (by decide)).trans ?_
  refine (asw_f (by decide)).trans ?_
  refine (asw_f (by decide)).trans ?_
  refine (asw_f (by decide)).trans ?_
  refine (asw_f (by decide)).trans ?_
  refine (asw_f (by decide)).trans ?_
  refine (asw_t (by decide)).trans ?_
  refine (r_aloadn f333_1160 rfl).trans ?_
  refine (r_aloadnX f333_1161 rfl).trans ?_
  refine (r_iloadn f333_1162 rfl).trans ?_
  refine (r_iconst (v := 1) f333_1163 rfl).trans ?_
  refine (r_iadd (v := 1) f333_1164 (by decide)).trans ?_
  refine (r_xld (v := (xs 1)) f333_1165 hX (by decide) rfl).trans ?_
  refine (r_aloadnX f333_1166 rfl).trans ?_
  refine (r_iloadn f333_1167 rfl).trans ?_
  refine (r_iconst (v := 2) f333_1168 rfl).trans ?_
  refine (r_iadd (v := 2) f333_1169 (by decide)).trans ?_
  refine (r_xld (v := (xs 2)) f333_1170 hX (by decide) rfl).trans ?_
  refine (r_aloadnX f333_1171 rfl).trans ?_
  refine (r_iloadn f333_1172 rfl).trans ?_
  refine (r_iconst (v := 3) f333_1173 rfl).trans ?_
  refine (r_iadd (v := 3) f333_1174 (by decide)).trans ?_
  refine (r_xld (v := (xs 3)) f333_1175 hX (by decide) rfl).trans ?_
  refine (r_aloadnX f333_1176 rfl).trans ?_
  refine (r_iloadn f333_1177 rfl).trans ?_
  refine (r_iconst (v := 4) f333_1178 rfl).trans ?_
  refine (r_iadd (v := 4) f333_1179 (by decide)).trans ?_
  refine (r_xld (v := (xs 4)) f333_1180 hX (by decide) rfl).trans ?_
  refine (r_virt (as := [.int (xs 1), .int (xs 2), .int (xs 3), .int (xs 4)]) (v := (some (.int v))) (h1 := h1) f333_1181 zh0 zg170 rfl rfl rfl rfl rfl rfl (ce (by omega) (e1 X (n + 1966) (d + 9)))).trans ?_
  refine (r_aloadn f333_1184 rfl).trans ?_
  refine (r_aloadnX f333_1185 rfl).trans ?_
  refine (r_iloadn f333_1186 rfl).trans ?_
  refine (r_iconst (v := 1) f333_1187 rfl).trans ?_
  refine (r_iadd (v := 1) f333_1188 (by decide)).trans ?_
  refine (r_xld (v := (xs 1)) f333_1189 hX (by decide) rfl).trans ?_
  refine (r_aloadnX f333_1190 rfl).trans ?_
  refine (r_iloadn f333_1191 rfl).trans ?_
  refine (r_iconst (v := 2) f333_1192 rfl).trans ?_
  refine (r_iadd (v := 2) f333_1193 (by decide)).trans ?_
  refine (r_xld (v := (xs 2)) f333_1194 hX (by decide) rfl).trans ?_
  refine (r_aloadnX f333_1195 rfl).trans ?_
  refine (r_iloadn f333_1196 rfl).trans ?_
  refine (r_iconst (v := 3) f333_1197 rfl).trans ?_
  refine (r_iadd (v := 3) f333_1198 (by decide)).trans ?_
  refine (r_xld (v := (xs 3)) f333_1199 hX (by decide) rfl).trans ?_
  refine (r_aloadnX f333_1200 rfl).trans ?_
  refine (r_iloadn f333_1201 rfl).trans ?_
  refine (r_iconst (v := 4) f333_1202 rfl).trans ?_
  refine (r_iadd (v := 4) f333_1203 (by decide)).trans ?_
  refine (r_xld (v := (xs 4)) f333_1204 hX (by decide) rfl).trans ?_
  refine (r_virt (as := [.int (xs 1), .int (xs 2), .int (xs 3), .int (xs 4)]) (v := (some (.int v))) (h1 := h2) f333_1205 g72 zg274 rfl rfl rfl rfl rfl rfl (ce (by omega) (e2 X (n + 1944) (d + 9)))).trans ?_
  refine (r_icmp_eq_t f333_1208 rfl).trans ?_
  refine (r_iinc (v := 6) (L' := [some (.retAddr 1), some (.ref 0), some (.ref 72), some (.int 6)]) f333_2076 rfl rfl rfl).trans ?_
  refine (r_goto f333_2079).trans ?_
  refine (r_iloadn f333_18 rfl).trans ?_
  refine (r_aloadnX f333_19 rfl).trans ?_
  refine (r_xlen (v := 6) f333_20 hX rfl).trans ?_
  refine (r_bipush (v := 6) f333_21 rfl).trans ?_
  refine (r_isub (v := 0) f333_23 (by decide)).trans ?_
  refine (r_icmp_gt_t f333_24 (by decide)).trans ?_
  refine (r_iconst (v := 1) f333_2082 rfl).trans ?_
  exact r_zreturn f333_2083 rfl (by decide)
set_option maxRecDepth 20000 in
theorem lc_27 {X : aX} {xs : Nat → Int32} (hX : X 1 = some (6, xs)) (hk : xs 0 &&& 63 = 27) : ∃ h2 : aH, (∀ n d : Nat, arun X (n + 1002000) (d + 30) zM333 18 [some (.retAddr 1), some (.ref 0), some (.ref 72), some (.int 0)] [] zH0 = some (some (.int 1), h2)) ∧ h2.1.length ≤ 600000 ∧ h2.2 ≤ 7302250 := by
  obtain ⟨v, h1, h2, e1, e2, g72, s1, s2⟩ := pc_27 (xs 1) (xs 2) (xs 3) (xs 4)
  refine ⟨h2, fun n d => ?_, s1, s2⟩
  refine (r_iloadn f333_18 rfl).trans ?_
  refine (r_aloadnX f333_19 rfl).trans ?_
  refine (r_xlen (v := 6) f333_20 hX rfl).trans ?_
  refine (r_bipush (v := 6) f333_21 rfl).trans ?_
  refine (r_isub (v := 0) f333_23 (by decide)).trans ?_
  refine (r_icmp_gt_f f333_24 (by decide)).trans ?_
  refine (r_aloadnX f333_27 rfl).trans ?_
  refine (r_iloadn f333_28 rfl).trans ?_
  refine (r_xld (v := (xs 0)) f333_29 hX (by decide) rfl).trans ?_
  refine (r_bipush (v := 63) f333_30 rfl).trans ?_
  refine (r_iand (v := 27) f333_32 hk).trans ?_
  refine (r_tsw f333_33).trans ?_
  refine (asw_f (by decide)).trans ?_
  refine (asw_f (by decide)).trans ?_
  refine (asw_f (by decide)).trans ?_
  refine (asw_f (by decide)).trans ?_
  refine (asw_f (by decide)).trans ?_
  refine (asw_f (by decide)).trans ?_
  refine (asw_f (by decide)).trans ?_
  refine (asw_f (by decide)).trans ?_
  refine (asw_f (by decide)).trans ?_
  refine (asw_f (by decide)).trans ?_
  refine (asw_f (by decide)).trans ?_
  refine (asw_f (by decide)).trans ?_
  refine (asw_f (by decide)).trans ?_
  refine (asw_f (by decide)).trans ?_
  refine (asw_f (by decide)).trans ?_
  refine (asw_f (by decide)).trans ?_
  refine (asw_f (by decide)).trans ?_
  refine (asw_f (by decide)).trans ?_
  refine (asw_f (by decide)).trans ?_
  refine (asw_f (by decide)).trans ?_
  refine (asw_f (by decide)).trans ?_
  refine (asw_f (by decide)).trans ?_
  refine (asw_f (by decide)).trans ?_
  refine (asw_f (by decide)).trans ?_
  refine (asw_f (by decide)).trans ?_
  refine (asw_f (by decide)).trans ?_
  refine (asw_f (by decide)).trans ?_
  refine (asw_t (by decide)).trans ?_
  refine (r_aloadn f333_1213 rfl).trans ?_
  refine (r_aloadnX f333_1214 rfl).trans ?_
  refine (r_iloadn f333_1215 rfl).trans ?_
  refine (r_iconst (v := 1) f333_1216 rfl).trans ?_
  refine (r_iadd (v := 1) f333_1217 (by decide)).trans ?_
  refine (r_xld (v := (xs 1)) f333_1218 hX (by decide) rfl).trans ?_
  refine (r_aloadnX f333_1219 rfl).trans ?_
  refine (r_iloadn f333_1220 rfl).trans ?_
  refine (r_iconst (v := 2) f333_1221 rfl).trans ?_
  refine (r_iadd (v := 2) f333_1222 (by decide)).trans ?_
  refine (r_xld (v := (xs 2)) f333_1223 hX (by decide) rfl).trans ?_
  refine (r_aloadnX f333_1224 rfl).trans ?_
  refine (r_iloadn f333_1225 rfl).trans ?_
  refine (r_iconst (v := 3) f333_1226 rfl).trans ?_
  refine (r_iadd (v := 3) f333_1227 (by decide)).trans ?_
  refine (r_xld (v := (xs 3)) f333_1228 hX (by decide) rfl).trans ?_
  refine (r_aloadnX f333_1229 rfl).trans ?_
  refine (r_iloadn f333_1230 rfl).trans ?_
  refine (r_iconst (v := 4) f333_1231 rfl).trans ?_
  refine (r_iadd (v := 4) f333_1232 (by decide)).trans ?_
  refine (r_xld (v := (xs 4)) f333_1233 hX (by decide) rfl).trans ?_
  refine (r_virt (as := [.int (xs 1), .int (xs 2), .int (xs 3), .int (xs 4)]) (v := (some (.int v))) (h1 := h1) f333_1234 zh0 zg171 rfl rfl rfl rfl rfl rfl (ce (by omega) (e1 X (n + 1966) (d + 9)))).trans ?_
  refine (r_aloadn f333_1237 rfl).trans ?_
  refine (r_aloadnX f333_1238 rfl).trans ?_
  refine (r_iloadn f333_1239 rfl).trans ?_
  refine (r_iconst (v := 1) f333_1240 rfl).trans ?_
  refine (r_iadd (v := 1) f333_1241 (by decide)).trans ?_
  refine (r_xld (v := (xs 1)) f333_1242 hX (by decide) rfl).trans ?_
  refine (r_aloadnX f333_1243 rfl).trans ?_
  refine (r_iloadn f333_1244 rfl).trans ?_
  refine (r_iconst (v := 2) f333_1245 rfl).trans ?_
  refine (r_iadd (v := 2) f333_1246 (by decide)).trans ?_
  refine (r_xld (v := (xs 2)) f333_1247 hX (by decide) rfl).trans ?_
  refine (r_aloadnX f333_1248 rfl).trans ?_
  refine (r_iloadn f333_1249 rfl).trans ?_
  refine (r_iconst (v := 3) f333_1250 rfl).trans ?_
  refine (r_iadd (v := 3) f333_1251 (by decide)).trans ?_
  refine (r_xld (v := (xs 3)) f333_1252 hX (by decide) rfl).trans ?_
  refine (r_aloadnX f333_1253 rfl).trans ?_
  refine (r_iloadn f333_1254 rfl).trans ?_
  refine (r_iconst (v := 4) f333_1255 rfl).trans ?_
  refine (r_iadd (v := 4) f333_1256 (by decide)).trans ?_
  refine (r_xld (v := (xs 4)) f333_1257 hX (by decide) rfl).trans ?_
  refine (r_virt (as := [.int (xs 1), .int (xs 2), .int (xs 3), .int (xs 4)]) (v := (some (.int v))) (h1 := h2) f333_1258 g72 zg278 rfl rfl rfl rfl rfl rfl (ce (by omega) (e2 X (n + 1944) (d + 9)))).trans ?_
  refine (r_icmp_eq_t f333_1261 rfl).trans ?_
  refine (r_iinc (v := 6) (L' := [some (.retAddr 1), some (.ref 0), some (.ref 72), some (.int 6)]) f333_2076 rfl rfl rfl).trans ?_
  refine (r_goto f333_2079).trans ?_
  refine (r_iloadn f333_18 rfl).trans ?_
  refine (r_aloadnX f333_19 rfl).trans ?_
  refine (r_xlen (v := 6) f333_20 hX rfl).trans ?_
  refine (r_bipush (v := 6) f333_21 rfl).trans ?_
  refine (r_isub (v := 0) f333_23 (by decide)).trans ?_
  refine (r_icmp_gt_t f333_24 (by decide)).trans ?_
  refine (r_iconst (v := 1) f333_2082 rfl).trans ?_
  exact r_zreturn f333_2083 rfl (by decide)
set_option maxRecDepth 20000 in
theorem lc_28 {X : aX} {xs : Nat → Int32} (hX : X 1 = some (6, xs)) (hk : xs 0 &&& 63 = 28) : ∃ h2 : aH, (∀ n d : Nat, arun X (n + 1002000) (d + 30) zM333 18 [some (.retAddr 1), some (.ref 0), some (.ref 72), some (.int 0)] [] zH0 = some (some (.int 1), h2)) ∧ h2.1.length ≤ 600000 ∧ h2.2 ≤ 7302250 := by
  obtain ⟨v, h1, h2, e1, e2, g72, s1, s2⟩ := pc_28 (xs 1) (xs 2)
  refine ⟨h2, fun n d => ?_, s1, s2⟩
  refine (r_iloadn f333_18 rfl).trans ?_
  refine (r_aloadnX f333_19 rfl).trans ?_
  refine (r_xlen (v := 6) f333_20 hX rfl).trans ?_
  refine (r_bipush (v := 6) f333_21 rfl).trans ?_
  refine (r_isub (v := 0) f333_23 (by decide)).trans ?_
  refine (r_icmp_gt_f f333_24 (by decide)).trans ?_
  refine (r_aloadnX f333_27 rfl).trans ?_
  refine (r_iloadn f333_28 rfl).trans ?_
  refine (r_xld (v := (xs 0)) f333_29 hX (by decide) rfl).trans ?_
  refine (r_bipush (v := 63) f333_30 rfl).trans ?_
  refine (r_iand (v := 28) f333_32 hk).trans ?_
  refine (r_tsw f333_33).trans ?_
  refine (asw_f (by decide)).trans ?_
  refine (asw_f (by decide)).trans ?_
  refine (asw_f (by decide)).trans ?_
  refine (asw_f (by decide)).trans ?_
  refine (asw_f (by decide)).trans ?_
  refine (asw_f (by decide)).trans ?_
  refine (asw_f (by decide)).trans ?_
  refine (asw_f (by decide)).trans ?_
  refine (asw_f (by decide)).trans ?_
  refine (asw_f (by decide)).trans ?_
  refine (asw_f (by decide)).trans ?_
  refine (asw_f (by decide)).trans ?_
  refine (asw_f (by decide)).trans ?_
  refine (asw_f (by decide)).trans ?_
  refine (asw_f (by decide)).trans ?_
  refine (asw_f (by decide)).trans ?_
  refine (asw_f (by decide)).trans ?_
  refine (asw_f (by decide)).trans ?_
  refine (asw_f (by decide)).trans ?_
  refine (asw_f (by decide)).trans ?_
  refine (asw_f (by decide)).trans ?_
  refine (asw_f (by decide)).trans ?_
  refine (asw_f (by decide)).trans ?_
  refine (asw_f (by decide)).trans ?_
  refine (asw_f (by decide)).trans ?_
  refine (asw_f (by decide)).trans ?_
  refine (asw_f (by decide)).trans ?_
  refine (asw_f (by decide)).trans ?_
  refine (asw_t (by decide)).trans ?_
  refine (r_aloadn f333_1266 rfl).trans ?_
  refine (r_aloadnX f333_1267 rfl).trans ?_
  refine (r_iloadn f333_1268 rfl).trans ?_
  refine (r_iconst (v := 1) f333_1269 rfl).trans ?_
  refine (r_iadd (v := 1) f333_1270 (by decide)).trans ?_
  refine (r_xld (v := (xs 1)) f333_1271 hX (by decide) rfl).trans ?_
  refine (r_aloadnX f333_1272 rfl).trans ?_
  refine (r_iloadn f333_1273 rfl).trans ?_
  refine (r_iconst (v := 2) f333_1274 rfl).trans ?_
  refine (r_iadd (v := 2) f333_1275 (by decide)).trans ?_
  refine (r_xld (v := (xs 2)) f333_1276 hX (by decide) rfl).trans ?_
  refine (r_virt (as := [.int (xs 1), .int (xs 2)]) (v := (some (.int v))) (h1 := h1) f333_1277 zh0 zg172 rfl rfl rfl rfl rfl rfl (ce (by omega) (e1 X (n + 1976) (d + 9)))).trans ?_
  refine (r_aloadn f333_1280 rfl).trans ?_
  refine (r_aloadnX f333_1281 rfl).trans ?_
  refine (r_iloadn f333_1282 rfl).trans ?_
  refine (r_iconst (v := 1) f333_1283 rfl).trans ?_
  refine (r_iadd (v := 1) f333_1284 (by decide)).trans ?_
  refine (r_xld (v := (xs 1)) f333_1285 hX (by decide) rfl).trans ?_
  refine (r_aloadnX f333_1286 rfl).trans ?_
  refine (r_iloadn f333_1287 rfl).trans ?_
  refine (r_iconst (v := 2) f333_1288 rfl).trans ?_
  refine (r_iadd (v := 2) f333_1289 (by decide)).trans ?_
  refine (r_xld (v := (xs 2)) f333_1290 hX (by decide) rfl).trans ?_
  refine (r_virt (as := [.int (xs 1), .int (xs 2)]) (v := (some (.int v))) (h1 := h2) f333_1291 g72 zg279 rfl rfl rfl rfl rfl rfl (ce (by omega) (e2 X (n + 1964) (d + 9)))).trans ?_
  refine (r_icmp_eq_t f333_1294 rfl).trans ?_
  refine (r_iinc (v := 6) (L' := [some (.retAddr 1), some (.ref 0), some (.ref 72), some (.int 6)]) f333_2076 rfl rfl rfl).trans ?_
  refine (r_goto f333_2079).trans ?_
  refine (r_iloadn f333_18 rfl).trans ?_
  refine (r_aloadnX f333_19 rfl).trans ?_
  refine (r_xlen (v := 6) f333_20 hX rfl).trans ?_
  refine (r_bipush (v := 6) f333_21 rfl).trans ?_
  refine (r_isub (v := 0) f333_23 (by decide)).trans ?_
  refine (r_icmp_gt_t f333_24 (by decide)).trans ?_
  refine (r_iconst (v := 1) f333_2082 rfl).trans ?_
  exact r_zreturn f333_2083 rfl (by decide)
set_option maxRecDepth 20000 in
theorem lc_29 {X : aX} {xs : Nat → Int32} (hX : X 1 = some (6, xs)) (hk : xs 0 &&& 63 = 29) : ∃ h2 : aH, (∀ n d : Nat, arun X (n + 1002000) (d + 30) zM333 18 [some (.retAddr 1), some (.ref 0), some (.ref 72), some (.int 0)] [] zH0 = some (some (.int 1), h2)) ∧ h2.1.length ≤ 600000 ∧ h2.2 ≤ 7302250 := by
  obtain ⟨v, h1, h2, e1, e2, g72, s1, s2⟩ := pc_29 (xs 1)
  refine ⟨h2, fun n d => ?_, s1, s2⟩
  refine (r_iloadn f333_18 rfl).trans ?_
  refine (r_aloadnX f333_19 rfl).trans ?_
  refine (r_xlen (v := 6) f333_20 hX rfl).trans ?_
  refine (r_bipush (v := 6) f333_21 rfl).trans ?_
  refine (r_isub (v := 0) f333_23 (by decide)).trans ?_
  refine (r_icmp_gt_f f333_24 (by decide)).trans ?_
  refine (r_aloadnX f333_27 rfl).trans ?_
  refine (r_iloadn f333_28 rfl).trans ?_
  refine (r_xld (v := (xs 0)) f333_29 hX (by decide) rfl).trans ?_
  refine (r_bipush (v := 63) f333_30 rfl).trans ?_
  refine (r_iand (v := 29) f333_32 hk).trans ?_
  refine (r_tsw f333_33).trans ?_
  refine (asw_f (by decide)).trans ?_
  refine (asw_f (by decide)).trans ?_
  refine (asw_f (by decide)).trans ?_
  refine (asw_f (by decide)).trans ?_
  refine (asw_f (by decide)).trans ?_
  refine (asw_f (by decide)).trans ?_
  refine (asw_f (by decide)).trans ?_
  refine (asw_f (by decide)).trans ?_
  refine (asw_f (by decide)).trans ?_
  refine (asw_f (by decide)).trans ?_
  refine (asw_f (by decide)).trans ?_
  refine (asw_f (by decide)).trans ?_
  refine (asw_f (by decide)).trans ?_
  refine (asw_f (by decide)).trans ?_
  refine (asw_f (by decide)).trans ?_
  refine (asw_f (by decide)).trans ?_
  refine (asw_f (by decide)).trans ?_
  refine (asw_f (by decide)).trans ?_
  refine (asw_f (by decide)).trans ?_
  refine (asw_f (by decide)).trans ?_
  refine (asw_f (by decide)).trans ?_
  refine (asw_f (by decide)).trans ?_
  refine (asw_f (by decide)).trans ?_
  refine (asw_f (by decide)).trans ?_
  refine (asw_f (by decide)).trans ?_
  refine (asw_f (by decide)).trans ?_
  refine (asw_f (by decide)).trans ?_
  refine (asw_f (by decide)).trans ?_
  refine (asw_f (by decide)).trans ?_
  refine (asw_t (by decide)).trans ?_
  refine (r_aloadn f333_1299 rfl).trans ?_
  refine (r_aloadnX f333_1300 rfl).trans ?_
  refine (r_iloadn f333_1301 rfl).trans ?_
  refine (r_iconst (v := 1) f333_1302 rfl).trans ?_
  refine (r_iadd (v := 1) f333_1303 (by decide)).trans ?_
  refine (r_xld (v := (xs 1)) f333_1304 hX (by decide) rfl).trans ?_
  refine (r_virt (as := [.int (xs 1)]) (v := (some (.int v))) (h1 := h1) f333_1305 zh0 zg173 rfl rfl rfl rfl rfl rfl (ce (by omega) (e1 X (n + 1981) (d + 9)))).trans ?_
  refine (r_aloadn f333_1308 rfl).trans ?_
  refine (r_aloadnX f333_1309 rfl).trans ?_
  refine (r_iloadn f333_1310 rfl).trans ?_
  refine (r_iconst (v := 1) f333_1311 rfl).trans ?_
  refine (r_iadd (v := 1) f333_1312 (by decide)).trans ?_
  refine (r_xld (v := (xs 1)) f333_1313 hX (by decide) rfl).trans ?_
  refine (r_virt (as := [.int (xs 1)]) (v := (some (.int v))) (h1 := h2) f333_1314 g72 zg280 rfl rfl rfl rfl rfl rfl (ce (by omega) (e2 X (n + 1974) (d + 9)))).trans ?_
  refine (r_icmp_eq_t f333_1317 rfl).trans ?_
  refine (r_iinc (v := 6) (L' := [some (.retAddr 1), some (.ref 0), some (.ref 72), some (.int 6)]) f333_2076 rfl rfl rfl).trans ?_
  refine (r_goto f333_2079).trans ?_
  refine (r_iloadn f333_18 rfl).trans ?_
  refine (r_aloadnX f333_19 rfl).trans ?_
  refine (r_xlen (v := 6) f333_20 hX rfl).trans ?_
  refine (r_bipush (v := 6) f333_21 rfl).trans ?_
  refine (r_isub (v := 0) f333_23 (by decide)).trans ?_
  refine (r_icmp_gt_t f333_24 (by decide)).trans ?_
  refine (r_iconst (v := 1) f333_2082 rfl).trans ?_
  exact r_zreturn f333_2083 rfl (by decide)
set_option maxRecDepth 20000 in
theorem lc_30 {X : aX} {xs : Nat → Int32} (hX : X 1 = some (6, xs)) (hk : xs 0 &&& 63 = 30) : ∃ h2 : aH, (∀ n d : Nat, arun X (n + 1002000) (d + 30) zM333 18 [some (.retAddr 1), some (.ref 0), some (.ref 72), some (.int 0)] [] zH0 = some (some (.int 1), h2)) ∧ h2.1.length ≤ 600000 ∧ h2.2 ≤ 7302250 := by
  obtain ⟨v, h1, h2, e1, e2, g72, s1, s2⟩ := pc_30 (xs 1) (xs 2) (xs 3)
  refine ⟨h2, fun n d => ?_, s1, s2⟩
  refine (r_iloadn f333_18 rfl).trans ?_
  refine (r_aloadnX f333_19 rfl).trans ?_
  refine (r_xlen (v := 6) f333_20 hX rfl).trans ?_
  refine (r_bipush (v := 6) f333_21 rfl).trans ?_
  refine (r_isub (v := 0) f333_23 (by decide)).trans ?_
  refine (r_icmp_gt_f f333_24 (by decide)).trans ?_
  refine (r_aloadnX f333_27 rfl).trans ?_
  refine (r_iloadn f333_28 rfl).trans ?_
  refine (r_xld (v := (xs 0)) f333_29 hX (by decide) rfl).trans ?_
  refine (r_bipush (v := 63) f333_30 rfl).trans ?_
  refine (r_iand (v := 30) f333_32 hk).trans ?_
  refine (r_tsw f333_33).trans ?_
  refine (asw_f (by decide)).trans ?_
  refine (asw_f (by decide)).trans ?_
  refine (asw_f (by decide)).trans ?_
  refine (asw_f (by decide)).trans ?_
  refine (asw_f (by decide)).trans ?_
  refine (asw_f (by decide)).trans ?_
  refine (asw_f (by decide)).trans ?_
  refine (asw_f (by decide)).trans ?_
  refine (asw_f (by decide)).trans ?_
  refine (asw_f (by decide)).trans ?_
  refine (asw_f (by decide)).trans ?_
  refine (asw_f (by decide)).trans ?_
  refine (asw_f (by decide)).trans ?_
  refine (asw_f (by decide)).trans ?_
  refine (asw_f (by decide)).trans ?_
  refine (asw_f (by decide)).trans ?_
  refine (asw_f (by decide)).trans ?_
  refine (asw_f (by decide)).trans ?_
  refine (asw_f (by decide)).trans ?_
  refine (asw_f (by decide)).trans ?_
  refine (asw_f (by decide)).trans ?_
  refine (asw_f (by decide)).trans ?_
  refine (asw_f (by decide)).trans ?_
  refine (asw_f (by decide)).trans ?_
  refine (asw_f (by decide)).trans ?_
  refine (asw_f (by decide)).trans ?_
  refine (asw_f (by decide)).trans ?_
  refine (asw_f (by decide)).trans ?_
  refine (asw_f (by decide)).trans ?_
  refine (asw_f (by decide)).trans ?_
  refine (asw_t (by decide)).trans ?_
  refine (r_aloadn f333_1322 rfl).trans ?_
  refine (r_aloadnX f333_1323 rfl).trans ?_
  refine (r_iloadn f333_1324 rfl).trans ?_
  refine (r_iconst (v := 1) f333_1325 rfl).trans ?_
  refine (r_iadd (v := 1) f333_1326 (by decide)).trans ?_
  refine (r_xld (v := (xs 1)) f333_1327 hX (by decide) rfl).trans ?_
  refine (r_aloadnX f333_1328 rfl).trans ?_
  refine (r_iloadn f333_1329 rfl).trans ?_
  refine (r_iconst (v := 2) f333_1330 rfl).trans ?_
  refine (r_iadd (v := 2) f333_1331 (by decide)).trans ?_
  refine (r_xld (v := (xs 2)) f333_1332 hX (by decide) rfl).trans ?_
  refine (r_aloadnX f333_1333 rfl).trans ?_
  refine (r_iloadn f333_1334 rfl).trans ?_
  refine (r_iconst (v := 3) f333_1335 rfl).trans ?_
  refine (r_iadd (v := 3) f333_1336 (by decide)).trans ?_
  refine (r_xld (v := (xs 3)) f333_1337 hX (by decide) rfl).trans ?_
  refine (r_virt (as := [.int (xs 1), .int (xs 2), .int (xs 3)]) (v := (some (.int v))) (h1 := h1) f333_1338 zh0 zg174 rfl rfl rfl rfl rfl rfl (ce (by omega) (e1 X (n + 1971) (d + 9)))).trans ?_
  refine (r_aloadn f333_1341 rfl).trans ?_
  refine (r_aloadnX f333_1342 rfl).trans ?_
  refine (r_iloadn f333_1343 rfl).trans ?_
  refine (r_iconst (v := 1) f333_1344 rfl).trans ?_
  refine (r_iadd (v := 1) f333_1345 (by decide)).trans ?_
  refine (r_xld (v := (xs 1)) f333_1346 hX (by decide) rfl).trans ?_
  refine (r_aloadnX f333_1347 rfl).trans ?_
  refine (r_iloadn f333_1348 rfl).trans ?_
  refine (r_iconst (v := 2) f333_1349 rfl).trans ?_
  refine (r_iadd (v := 2) f333_1350 (by decide)).trans ?_
  refine (r_xld (v := (xs 2)) f333_1351 hX (by decide) rfl).trans ?_
  refine (r_aloadnX f333_1352 rfl).trans ?_
  refine (r_iloadn f333_1353 rfl).trans ?_
  refine (r_iconst (v := 3) f333_1354 rfl).trans ?_
  refine (r_iadd (v := 3) f333_1355 (by decide)).trans ?_
  refine (r_xld (v := (xs 3)) f333_1356 hX (by decide) rfl).trans ?_
  refine (r_virt (as := [.int (xs 1), .int (xs 2), .int (xs 3)]) (v := (some (.int v))) (h1 := h2) f333_1357 g72 zg281 rfl rfl rfl rfl rfl rfl (ce (by omega) (e2 X (n + 1954) (d + 9)))).trans ?_
  refine (r_icmp_eq_t f333_1360 rfl).trans ?_
  refine (r_iinc (v := 6) (L' := [some (.retAddr 1), some (.ref 0), some (.ref 72), some (.int 6)]) f333_2076 rfl rfl rfl).trans ?_
  refine (r_goto f333_2079).trans ?_
  refine (r_iloadn f333_18 rfl).trans ?_
  refine (r_aloadnX f333_19 rfl).trans ?_
  refine (r_xlen (v := 6) f333_20 hX rfl).trans ?_
  refine (r_bipush (v := 6) f333_21 rfl).trans ?_
  refine (r_isub (v := 0) f333_23 (by decide)).trans ?_
  refine (r_icmp_gt_t f333_24 (by decide)).trans ?_
  refine (r_iconst (v := 1) f333_2082 rfl).trans ?_
  exact r_zreturn f333_2083 rfl (by decide)
set_option maxRecDepth 20000 in
theorem lc_31 {X : aX} {xs : Nat → Int32} (hX : X 1 = some (6, xs)) (hk : xs 0 &&& 63 = 31) : ∃ h2 : aH, (∀ n d : Nat, arun X (n + 1002000) (d + 30) zM333 18 [some (.retAddr 1), some (.ref 0), some (.ref 72), some (.int 0)] [] zH0 = some (some (.int 1), h2)) ∧ h2.1.length ≤ 600000 ∧ h2.2 ≤ 7302250 := by
  obtain ⟨v, h1, h2, e1, e2, g72, s1, s2⟩ := pc_31 (xs 1)
  refine ⟨h2, fun n d => ?_, s1, s2⟩
  refine (r_iloadn f333_18 rfl).trans ?_
  refine (r_aloadnX f333_19 rfl).trans ?_
  refine (r_xlen (v := 6) f333_20 hX rfl).trans ?_
  refine (r_bipush (v := 6) f333_21 rfl).trans ?_
  refine (r_isub (v := 0) f333_23 (by decide)).trans ?_
  refine (r_icmp_gt_f f333_24 (by decide)).trans ?_
  refine (r_aloadnX f333_27 rfl).trans ?_
  refine (r_iloadn f333_28 rfl).trans ?_
  refine (r_xld (v := (xs 0)) f333_29 hX (by decide) rfl).trans ?_
  refine (r_bipush (v := 63) f333_30 rfl).trans ?_
  refine (r_iand (v := 31) f333_32 hk).trans ?_
  refine (r_tsw f333_33).trans ?_
  refine (asw_f (by decide)).trans ?_
  refine (asw_f (by decide)).trans ?_
  refine (asw_f (by decide)).trans ?_
  refine (asw_f (by decide)).trans ?_
  refine (asw_f (by decide)).trans ?_
  refine (asw_f (by decide)).trans ?_
  refine (asw_f (by decide)).trans ?_
  refine (asw_f (by decide)).trans ?_
  refine (asw_f (by decide)).trans ?_
  refine (asw_f (by decide)).trans ?_
  refine (asw_f (by decide)).trans ?_
  refine (asw_f (by decide)).trans ?_
  refine (asw_f (by decide)).trans ?_
  refine (asw_f (by decide)).trans ?_
  refine (asw_f (by decide)).trans ?_
  refine (asw_f (by decide)).trans ?_
  refine (asw_f (by decide)).trans ?_
  refine (asw_f (by decide)).trans ?_
  refine (asw_f (by decide)).trans ?_
  refine (asw_f (by decide)).trans ?_
  refine (asw_f (by decide)).trans ?_
  refine (asw_f (by decide)).trans ?_
  refine (asw_f (by decide)).trans ?_
  refine (asw_f (by decide)).trans ?_
  refine (asw_f (by decide)).trans ?_
  refine (asw_f (by decide)).trans ?_
  refine (asw_f (by decide)).trans ?_
  refine (asw_f (by decide)).trans ?_
  refine (asw_f (by decide)).trans ?_
  refine (asw_f (by decide)).trans ?_
  refine (asw_f (by decide)).trans ?_
  refine (asw_t (by decide)).trans ?_
  refine (r_aloadn f333_1365 rfl).trans ?_
  refine (r_aloadnX f333_1366 rfl).trans ?_
  refine (r_iloadn f333_1367 rfl).trans ?_
  refine (r_iconst (v := 1) f333_1368 rfl).trans ?_
  refine (r_iadd (v := 1) f333_1369 (by decide)).trans ?_
  refine (r_xld (v := (xs 1)) f333_1370 hX (by decide) rfl).trans ?_
  refine (r_virt (as := [.int (xs 1)]) (v := (some (.int v))) (h1 := h1) f333_1371 zh0 zg175 rfl rfl rfl rfl rfl rfl (ce (by omega) (e1 X (n + 1981) (d + 9)))).trans ?_
  refine (r_aloadn f333_1374 rfl).trans ?_
  refine (r_aloadnX f333_1375 rfl).trans ?_
  refine (r_iloadn f333_1376 rfl).trans ?_
  refine (r_iconst (v := 1) f333_1377 rfl).trans ?_
  refine (r_iadd (v := 1) f333_1378 (by decide)).trans ?_
  refine (r_xld (v := (xs 1)) f333_1379 hX (by decide) rfl).trans ?_
  refine (r_virt (as := [.int (xs 1)]) (v := (some (.int v))) (h1 := h2) f333_1380 g72 zg288 rfl rfl rfl rfl rfl rfl (ce (by omega) (e2 X (n + 1974) (d + 9)))).trans ?_
  refine (r_icmp_eq_t f333_1383 rfl).trans ?_
  refine (r_iinc (v := 6) (L' := [some (.retAddr 1), some (.ref 0), some (.ref 72), some (.int 6)]) f333_2076 rfl rfl rfl).trans ?_
  refine (r_goto f333_2079).trans ?_
  refine (r_iloadn f333_18 rfl).trans ?_
  refine (r_aloadnX f333_19 rfl).trans ?_
  refine (r_xlen (v := 6) f333_20 hX rfl).trans ?_
  refine (r_bipush (v := 6) f333_21 rfl).trans ?_
  refine (r_isub (v := 0) f333_23 (by decide)).trans ?_
  refine (r_icmp_gt_t f333_24 (by decide)).trans ?_
  refine (r_iconst (v := 1) f333_2082 rfl).trans ?_
  exact r_zreturn f333_2083 rfl (by decide)
set_option maxRecDepth 20000 in
theorem lc_32 {X : aX} {xs : Nat → Int32} (hX : X 1 = some (6, xs)) (hk : xs 0 &&& 63 = 32) : ∃ h2 : aH, (∀ n d : Nat, arun X (n + 1002000) (d + 30) zM333 18 [some (.retAddr 1), some (.ref 0), some (.ref 72), some (.int 0)] [] zH0 = some (some (.int 1), h2)) ∧ h2.1.length ≤ 600000 ∧ h2.2 ≤ 7302250 := by
  obtain ⟨v, h1, h2, e1, e2, g72, s1, s2⟩ := pc_32 (xs 1)
  refine ⟨h2, fun n d => ?_, s1, s2⟩
  refine (r_iloadn f333_18 rfl).trans ?_
  refine (r_aloadnX f333_19 rfl).trans ?_
  refine (r_xlen (v := 6) f333_20 hX rfl).trans ?_
  refine (r_bipush (v := 6) f333_21 rfl).trans ?_
  refine (r_isub (v := 0) f333_23 (by decide)).trans ?_
  refine (r_icmp_gt_f f333_24 (by decide)).trans ?_
  refine (r_aloadnX f333_27 rfl).trans ?_
  refine (r_iloadn f333_28 rfl).trans ?_
  refine (r_xld (v := (xs 0)) f333_29 hX (by decide) rfl).trans ?_
  refine (r_bipush (v := 63) f333_30 rfl).trans ?_
  refine (r_iand (v := 32) f333_32 hk).trans ?_
  refine (r_tsw f333_33).trans ?_
  refine (asw_f (by decide)).trans ?_
  refine (asw_f (by decide)).trans ?_
  refine (asw_f (by decide)).trans ?_
  refine (asw_f (by decide)).trans ?_
  refine (asw_f (by decide)).trans ?_
  refine (asw_f (by decide)).trans ?_
  refine (asw_f (by decide)).trans ?_
  refine (asw_f (by decide)).trans ?_
  refine (asw_f (by decide)).trans ?_
  refine (asw_f (by decide)).trans ?_
  refine (asw_f (by decide)).trans ?_
  refine (asw_f (by decide)).trans ?_
  refine (asw_f (by decide)).trans ?_
  refine (asw_f (by decide)).trans ?_
  refine (asw_f (by decide)).trans ?_
  refine (asw_f (by decide)).trans ?_
  refine (asw_f (by decide)).trans ?_
  refine (asw_f (by decide)).trans ?_
  refine (asw_f (by decide)).trans ?_
  refine (asw_f (by decide)).trans ?_
  refine (asw_f (by decide)).trans ?_
  refine (asw_f (by decide)).trans ?_
  refine (asw_f (by decide)).trans ?_
  refine (asw_f (by decide)).trans ?_
  refine (asw_f (by decide)).trans ?_
  refine (asw_f (by decide)).trans ?_
  refine (asw_f (by decide)).trans ?_
  refine (asw_f (by decide)).trans ?_
  refine (asw_f (by decide)).trans ?_
  refine (asw_f (by decide)).trans ?_
  refine (asw_f (by decide)).trans ?_
  refine (asw_f (by decide)).trans ?_
  refine (asw_t (by decide)).trans ?_
  refine (r_aloadn f333_1388 rfl).trans ?_
  refine (r_aloadnX f333_1389 rfl).trans ?_
  refine (r_iloadn f333_1390 rfl).trans ?_
  refine (r_iconst (v := 1) f333_1391 rfl).trans ?_
  refine (r_iadd (v := 1) f333_1392 (by decide)).trans ?_
  refine (r_xld (v := (xs 1)) f333_1393 hX (by decide) rfl).trans ?_
  refine (r_virt (as := [.int (xs 1)]) (v := (some (.int v))) (h1 := h1) f333_1394 zh0 zg176 rfl rfl rfl rfl rfl rfl (ce (by omega) (e1 X (n + 1981) (d + 9)))).trans ?_
  refine (r_aloadn f333_1397 rfl).trans ?_
  refine (r_aloadnX f333_1398 rfl).trans ?_
  refine (r_iloadn f333_1399 rfl).trans ?_
  refine (r_iconst (v := 1) f333_1400 rfl).trans ?_
  refine (r_iadd (v := 1) f333_1401 (by decide)).trans ?_
  refine (r_xld (v := (xs 1)) f333_1402 hX (by decide) rfl).trans ?_
  refine (r_virt (as := [.int (xs 1)]) (v := (some (.int v))) (h1 := h2) f333_1403 g72 zg289 rfl rfl rfl rfl rfl rfl (ce (by omega) (e2 X (n + 1974) (d + 9)))).trans ?_
  refine (r_icmp_eq_t f333_1406 rfl).trans ?_
  refine (r_iinc (v := 6) (L' := [some (.retAddr 1), some (.ref 0), some (.ref 72), some (.int 6)]) f333_2076 rfl rfl rfl).trans ?_
  refine (r_goto f333_2079).trans ?_
  refine (r_iloadn f333_18 rfl).trans ?_
  refine (r_aloadnX f333_19 rfl).trans ?_
  refine (r_xlen (v := 6) f333_20 hX rfl).trans ?_
  refine (r_bipush (v := 6) f333_21 rfl).trans ?_
  refine (r_isub (v := 0) f333_23 (by decide)).trans ?_
  refine (r_icmp_gt_t f333_24 (by decide)).trans ?_
  refine (r_iconst (v := 1) f333_2082 rfl).trans ?_
  exact r_zreturn f333_2083 rfl (by decide)
set_option maxRecDepth 20000 in
theorem lc_33 {X : aX} {xs : Nat → Int32} (hX : X 1 = some (6, xs)) (hk : xs 0 &&& 63 = 33) : ∃ h2 : aH, (∀ n d : Nat, arun X (n + 1002000) (d + 30) zM333 18 [some (.retAddr 1), some (.ref 0), some (.ref 72), some (.int 0)] [] zH0 = some (some (.int 1), h2)) ∧ h2.1.length ≤ 600000 ∧ h2.2 ≤ 7302250 := by
  obtain ⟨v, h1, h2, e1, e2, g72, s1, s2⟩ := pc_33 (xs 1)
  refine ⟨h2, fun n d => ?_, s1, s2⟩
  refine (r_iloadn f333_18 rfl).trans ?_
  refine (r_aloadnX f333_19 rfl).trans ?_
  refine (r_xlen (v := 6) f333_20 hX rfl).trans ?_
  refine (r_bipush (v := 6) f333_21 rfl).trans ?_
  refine (r_isub (v := 0) f333_23 (by decide)).trans ?_
  refine (r_icmp_gt_f f333_24 (by decide)).trans ?_
  refine (r_aloadnX f333_27 rfl).trans ?_
  refine (r_iloadn f333_28 rfl).trans ?_
  refine (r_xld (v := (xs 0)) f333_29 hX (by decide) rfl).trans ?_
  refine (r_bipush (v := 63) f333_30 rfl).trans ?_
  refine (r_iand (v := 33) f333_32 hk).trans ?_
  refine (r_tsw f333_33).trans ?_
  refine (asw_f (by decide)).trans ?_
  refine (asw_f (by decide)).trans ?_
  refine (asw_f (by decide)).trans ?_
  refine (asw_f (by decide)).trans ?_
  refine (asw_f (by decide)).trans ?_
  refine (asw_f (by decide)).trans ?_
  refine (asw_f (by decide)).trans ?_
  refine (asw_f (by decide)).trans ?_
  refine (asw_f (by decide)).trans ?_
  refine (asw_f (by decide)).trans ?_
  refine (asw_f (by decide)).trans ?_
  refine (asw_f (by decide)).trans ?_
  refine (asw_f (by decide)).trans ?_
  refine (asw_f (by decide)).trans ?_
  refine (asw_f (by decide)).trans ?_
  refine (asw_f (by decide)).trans ?_
  refine (asw_f (by decide)).trans ?_
  refine (asw_f (by decide)).trans ?_
  refine (asw_f (by decide)).trans ?_
  refine (asw_f (by decide)).trans ?_
  refine (asw_f (by decide)).trans ?_
  refine (asw_f (by decide)).trans ?_
  refine (asw_f (by decide)).trans ?_
  refine (asw_f (by decide)).trans ?_
  refine (asw_f (by decide)).trans ?_
  refine (asw_f (by decide)).trans ?_
  refine (asw_f (by decide)).trans ?_
  refine (asw_f (by decide)).trans ?_
  refine (asw_f (by decide)).trans ?_
  refine (asw_f (by decide)).trans ?_
  refine (asw_f (by decide)).trans ?_
  refine (asw_f (by decide)).trans ?_
  refine (asw_f (by decide)).trans ?_
  refine (asw_t (by decide)).trans ?_
  refine (r_aloadn f333_1411 rfl).trans ?_
  refine (r_aloadnX f333_1412 rfl).trans ?_
  refine (r_iloadn f333_1413 rfl).trans ?_
  refine (r_iconst (v := 1) f333_1414 rfl).trans ?_
  refine (r_iadd (v := 1) f333_1415 (by decide)).trans ?_
  refine (r_xld (v := (xs 1)) f333_1416 hX (by decide) rfl).trans ?_
  refine (r_virt (as := [.int (xs 1)]) (v := (some (.int v))) (h1 := h1) f333_1417 zh0 zg177 rfl rfl rfl rfl rfl rfl (ce (by omega) (e1 X (n + 1981) (d + 9)))).trans ?_
  refine (r_aloadn f333_1420 rfl).trans ?_
  refine (r_aloadnX f333_1421 rfl).trans ?_
  refine (r_iloadn f333_1422 rfl).trans ?_
  refine (r_iconst (v := 1) f333_1423 rfl).trans ?_
  refine (r_iadd (v := 1) f333_1424 (by decide)).trans ?_
  refine (r_xld (v := (xs 1)) f333_1425 hX (by decide) rfl).trans ?_
  refine (r_virt (as := [.int (xs 1)]) (v := (some (.int v))) (h1 := h2) f333_1426 g72 zg290 rfl rfl rfl rfl rfl rfl (ce (by omega) (e2 X (n + 1974) (d + 9)))).trans ?_
  refine (r_icmp_eq_t f333_1429 rfl).trans ?_
  refine (r_iinc (v := 6) (L' := [some (.retAddr 1), some (.ref 0), some (.ref 72), some (.int 6)]) f333_2076 rfl rfl rfl).trans ?_
  refine (r_goto f333_2079).trans ?_
  refine (r_iloadn f333_18 rfl).trans ?_
  refine (r_aloadnX f333_19 rfl).trans ?_
  refine (r_xlen (v := 6) f333_20 hX rfl).trans ?_
  refine (r_bipush (v := 6) f333_21 rfl).trans ?_
  refine (r_isub (v := 0) f333_23 (by decide)).trans ?_
  refine (r_icmp_gt_t f333_24 (by decide)).trans ?_
  refine (r_iconst (v := 1) f333_2082 rfl).trans ?_
  exact r_zreturn f333_2083 rfl (by decide)
set_option maxRecDepth 20000 in
theorem lc_34 {X : aX} {xs : Nat → Int32} (hX : X 1 = some (6, xs)) (hk : xs 0 &&& 63 = 34) : ∃ h2 : aH, (∀ n d : Nat, arun X (n + 1002000) (d + 30) zM333 18 [some (.retAddr 1), some (.ref 0), some (.ref 72), some (.int 0)] [] zH0 = some (some (.int 1), h2)) ∧ h2.1.length ≤ 600000 ∧ h2.2 ≤ 7302250 := by
  obtain ⟨v, h1, h2, e1, e2, g72, s1, s2⟩ := pc_34 (xs 1) (xs 2) (xs 3)
  refine ⟨h2, fun n d => ?_, s1, s2⟩
  refine (r_iloadn f333_18 rfl).trans ?_
  refine (r_aloadnX f333_19 rfl).trans ?_
  refine (r_xlen (v := 6) f333_20 hX rfl).trans ?_
  refine (r_bipush (v := 6) f333_21 rfl).trans ?_
  refine (r_isub (v := 0) f333_23 (by decide)).trans ?_
  refine (r_icmp_gt_f f333_24 (by decide)).trans ?_
  refine (r_aloadnX f333_27 rfl).trans ?_
  refine (r_iloadn f333_28 rfl).trans ?_
  refine (r_xld (v := (xs 0)) f333_29 hX (by decide) rfl).trans ?_
  refine (r_bipush (v := 63) f333_30 rfl).trans ?_
  refine (r_iand (v := 34) f333_32 hk).trans ?_
  refine (r_tsw f333_33).trans ?_
  refine (asw_f (by decide)).trans ?_
  refine (asw_f (by decide)).trans ?_
  refine (asw_f (by decide)).trans ?_
  refine (asw_f (by decide)).trans ?_
  refine (asw_f (by decide)).trans ?_
  refine (asw_f (by decide)).trans ?_
  refine (asw_f (by decide)).trans ?_
  refine (asw_f (by decide)).trans ?_
  refine (asw_f (by decide)).trans ?_
  refine (asw_f (by decide)).trans ?_
  refine (asw_f (by decide)).trans ?_
  refine (asw_f (by decide)).trans ?_
  refine (asw_f (by decide)).trans ?_
  refine (asw_f (by decide)).trans ?_
  refine (asw_f (by decide)).trans ?_
  refine (asw_f (by decide)).trans ?_
  refine (asw_f (by decide)).trans ?_
  refine (asw_f (by decide)).trans ?_
  refine (asw_f (by decide)).trans ?_
  refine (asw_f (by decide)).trans ?_
  refine (asw_f (by decide)).trans ?_
  refine (asw_f (by decide)).trans ?_
  refine (asw_f (by decide)).trans ?_
  refine (asw_f (by decide)).trans ?_
  refine (asw_f (by decide)).trans ?_
  refine (asw_f (by decide)).trans ?_
  refine (asw_f (by decide)).trans ?_
  refine (asw_f (by decide)).trans ?_
  refine (asw_f (by decide)).trans ?_
  refine (asw_f (by decide)).trans ?_
  refine (asw_f (by decide)).trans ?_
  refine (asw_f (by decide)).trans ?_
  refine (asw_f (by decide)).trans ?_
  refine (asw_f (by decide)).trans ?_
  refine (asw_t (by decide)).trans ?_
  refine (r_aloadn f333_1434 rfl).trans ?_
  refine (r_aloadnX f333_1435 rfl).trans ?_
  refine (r_iloadn f333_1436 rfl).trans ?_
  refine (r_iconst (v := 1) f333_1437 rfl).trans ?_
  refine (r_iadd (v := 1) f333_1438 (by decide)).trans ?_
  refine (r_xld (v := (xs 1)) f333_1439 hX (by decide) rfl).trans ?_
  refine (r_aloadnX f333_1440 rfl).trans ?_
  refine (r_iloadn f333_1441 rfl).trans ?_
  refine (r_iconst (v := 2) f333_1442 rfl).trans ?_
  refine (r_iadd (v := 2) f333_1443 (by decide)).trans ?_
  refine (r_xld (v := (xs 2)) f333_1444 hX (by decide) rfl).trans ?_
  refine (r_aloadnX f333_1445 rfl).trans ?_
  refine (r_iloadn f333_1446 rfl).trans ?_
  refine (r_iconst (v := 3) f333_1447 rfl).trans ?_
  refine (r_iadd (v := 3) f333_1448 (by decide)).trans ?_
  refine (r_xld (v := (xs 3)) f333_1449 hX (by decide) rfl).trans ?_
  refine (r_virt (as := [.int (xs 1), .int (xs 2), .int (xs 3)]) (v := (some (.int v))) (h1 := h1) f333_1450 zh0 zg178 rfl rfl rfl rfl rfl rfl (ce (by omega) (e1 X (n + 1971) (d + 9)))).trans ?_
  refine (r_aloadn f333_1453 rfl).trans ?_
  refine (r_aloadnX f333_1454 rfl).trans ?_
  refine (r_iloadn f333_1455 rfl).trans ?_
  refine (r_iconst (v := 1) f333_1456 rfl).trans ?_
  refine (r_iadd (v := 1) f333_1457 (by decide)).trans ?_
  refine (r_xld (v := (xs 1)) f333_1458 hX (by decide) rfl).trans ?_
  refine (r_aloadnX f333_1459 rfl).trans ?_
  refine (r_iloadn f333_1460 rfl).trans ?_
  refine (r_iconst (v := 2) f333_1461 rfl).trans ?_
  refine (r_iadd (v := 2) f333_1462 (by decide)).trans ?_
  refine (r_xld (v := (xs 2)) f333_1463 hX (by decide) rfl).trans ?_
  refine (r_aloadnX f333_1464 rfl).trans ?_
  refine (r_iloadn f333_1465 rfl).trans ?_
  refine (r_iconst (v := 3) f333_1466 rfl).trans ?_
  refine (r_iadd (v := 3) f333_1467 (by decide)).trans ?_
  refine (r_xld (v := (xs 3)) f333_1468 hX (by decide) rfl).trans ?_
  refine (r_virt (as := [.int (xs 1), .int (xs 2), .int (xs 3)]) (v := (some (.int v))) (h1 := h2) f333_1469 g72 zg292 rfl rfl rfl rfl rfl rfl (ce (by omega) (e2 X (n + 1954) (d + 9)))).trans ?_
  refine (r_icmp_eq_t f333_1472 rfl).trans ?_
  refine (r_iinc (v := 6) (L' := [some (.retAddr 1), some (.ref 0), some (.ref 72), some (.int 6)]) f333_2076 rfl rfl rfl).trans ?_
  refine (r_goto f333_2079).trans ?_
  refine (r_iloadn f333_18 rfl).trans ?_
  refine (r_aloadnX f333_19 rfl).trans ?_
  refine (r_xlen (v := 6) f333_20 hX rfl).trans ?_
  refine (r_bipush (v := 6) f333_21 rfl).trans ?_
  refine (r_isub (v := 0) f333_23 (by decide)).trans ?_
  refine (r_icmp_gt_t f333_24 (by decide)).trans ?_
  refine (r_iconst (v := 1) f333_2082 rfl).trans ?_
  exact r_zreturn f333_2083 rfl (by decide)
set_option maxRecDepth 20000 in
theorem lc_35 {X : aX} {xs : Nat → Int32} (hX : X 1 = some (6, xs)) (hk : xs 0 &&& 63 = 35) : ∃ h2 : aH, (∀ n d : Nat, arun X (n + 1002000) (d + 30) zM333 18 [some (.retAddr 1), some (.ref 0), some (.ref 72), some (.int 0)] [] zH0 = some (some (.int 1), h2)) ∧ h2.1.length ≤ 600000 ∧ h2.2 ≤ 7302250 := by
  obtain ⟨v, h1, h2, e1, e2, g72, s1, s2⟩ := pc_35 (xs 1)
  refine ⟨h2, fun n d => ?_, s1, s2⟩
  refine (r_iloadn f333_18 rfl).trans ?_
  refine (r_aloadnX f333_19 rfl).trans ?_
  refine (r_xlen (v := 6) f333_20 hX rfl).trans ?_
  refine (r_bipush (v := 6) f333_21 rfl).trans ?_
  refine (r_isub (v := 0) f333_23 (by decide)).trans ?_
  refine (r_icmp_gt_f f333_24 (by decide)).trans ?_
  refine (r_aloadnX f333_27 rfl).trans ?_
  refine (r_iloadn f333_28 rfl).trans ?_
  refine (r_xld (v := (xs 0)) f333_29 hX (by decide) rfl).trans ?_
  refine (r_bipush (v := 63) f333_30 rfl).trans ?_
  refine (r_iand (v := 35) f333_32 hk).trans ?_
  refine (r_tsw f333_33).trans ?_
  refine (asw_f (by decide)).trans ?_
  refine (asw_f (by decide)).trans ?_
  refine (asw_f (by decide)).trans ?_
  refine (asw_f (by decide)).trans ?_
  refine (asw_f (by decide)).trans ?_
  refine (asw_f (by decide)).trans ?_
  refine (asw_f (by decide)).trans ?_
  refine (asw_f (by decide)).trans ?_
  refine (asw_f (by decide)).trans ?_
  refine (asw_f (by decide)).trans ?_
  refine (asw_f (by decide)).trans ?_
  refine (asw_f (by decide)).trans ?_
  refine (asw_f (by decide)).trans ?_
  refine (asw_f (by decide)).trans ?_
  refine (asw_f (by decide)).trans ?_
  refine (asw_f (by decide)).trans ?_
  refine (asw_f (by decide)).trans ?_
  refine (asw_f (by decide)).trans ?_
  refine (asw_f (by decide)).trans ?_
  refine (asw_f (by decide)).trans ?_
  refine (asw_f (by decide)).trans ?_
  refine (asw_f (by decide)).trans ?_
  refine (asw_f (by decide)).trans ?_
  refine (asw_f (by decide)).trans ?_
  refine (asw_f (by decide)).trans ?_
  refine (asw_f (by decide)).trans ?_
  refine (asw_f (by decide)).trans ?_
  refine (asw_f (by decide)).trans ?_
  refine (asw_f (by decide)).trans ?_
  refine (asw_f (by decide)).trans ?_
  refine (asw_f (by decide)).trans ?_
  refine (asw_f (by decide)).trans ?_
  refine (asw_f (by decide)).trans ?_
  refine (asw_f (by decide)).trans ?_
  refine (asw_f (by decide)).trans ?_
  refine (asw_t (by decide)).trans ?_
  refine (r_aloadn f333_1477 rfl).trans ?_
  refine (r_aloadnX f333_1478 rfl).trans ?_
  refine (r_iloadn f333_1479 rfl).trans ?_
  refine (r_iconst (v := 1) f333_1480 rfl).trans ?_
  refine (r_iadd (v := 1) f333_1481 (by decide)).trans ?_
  refine (r_xld (v := (xs 1)) f333_1482 hX (by decide) rfl).trans ?_
  refine (r_virt (as := [.int (xs 1)]) (v := (some (.int v))) (h1 := h1) f333_1483 zh0 zg179 rfl rfl rfl rfl rfl rfl (ce (by omega) (e1 X (n + 1981) (d + 9)))).trans ?_
  refine (r_aloadn f333_1486 rfl).trans ?_
  refine (r_aloadnX f333_1487 rfl).trans ?_
  refine (r_iloadn f333_1488 rfl).trans ?_
  refine (r_iconst (v := 1) f333_1489 rfl).trans ?_
  refine (r_iadd (v := 1) f333_1490 (by decide)).trans ?_
  refine (r_xld (v := (xs 1)) f333_1491 hX (by decide) rfl).trans ?_
  refine (r_virt (as := [.int (xs 1)]) (v := (some (.int v))) (h1 := h2) f333_1492 g72 zg294 rfl rfl rfl rfl rfl rfl (ce (by omega) (e2 X (n + 1974) (d + 9)))).trans ?_
  refine (r_icmp_eq_t f333_1495 rfl).trans ?_
  refine (r_iinc (v := 6) (L' := [some (.retAddr 1), some (.ref 0), some (.ref 72), some (.int 6)]) f333_2076 rfl rfl rfl).trans ?_
  refine (r_goto f333_2079).trans ?_
  refine (r_iloadn f333_18 rfl).trans ?_
  refine (r_aloadnX f333_19 rfl).trans ?_
  refine (r_xlen (v := 6) f333_20 hX rfl).trans ?_
  refine (r_bipush (v := 6) f333_21 rfl).trans ?_
  refine (r_isub (v := 0) f333_23 (by decide)).trans ?_
  refine (r_icmp_gt_t f333_24 (by decide)).trans ?_
  refine (r_iconst (v := 1) f333_2082 rfl).trans ?_
  exact r_zreturn f333_2083 rfl (by decide)
set_option maxRecDepth 20000 in
theorem lc_36 {X : aX} {xs : Nat → Int32} (hX : X 1 = some (6, xs)) (hk : xs 0 &&& 63 = 36) : ∃ h2 : aH, (∀ n d : Nat, arun X (n + 1002000) (d + 30) zM333 18 [some (.retAddr 1), some (.ref 0), some (.ref 72), some (.int 0)] [] zH0 = some (some (.int 1), h2)) ∧ h2.1.length ≤ 600000 ∧ h2.2 ≤ 7302250 := by
  obtain ⟨v, h1, h2, e1, e2, g72, s1, s2⟩ := pc_36 (xs 1) (xs 2) (xs 3)
  refine ⟨h2, fun n d => ?_, s1, s2⟩
  refine (r_iloadn f333_18 rfl).trans ?_
  refine (r_aloadnX f333_19 rfl).trans ?_
  refine (r_xlen (v := 6) f333_20 hX rfl).trans ?_
  refine (r_bipush (v := 6) f333_21 rfl).trans ?_
  refine (r_isub (v := 0) f333_23 (by decide)).trans ?_
  refine (r_icmp_gt_f f333_24 (by decide)).trans ?_
  refine (r_aloadnX f333_27 rfl).trans ?_
  refine (r_iloadn f333_28 rfl).trans ?_
  refine (r_xld (v := (xs 0)) f333_29 hX (by decide) rfl).trans ?_
  refine (r_bipush (v := 63) f333_30 rfl).trans ?_
  refine (r_iand (v := 36) f333_32 hk).trans ?_
  refine (r_tsw f333_33).trans ?_
  refine (asw_f (by decide)).trans ?_
  refine (asw_f (by decide)).trans ?_
  refine (asw_f (by decide)).trans ?_
  refine (asw_f (by decide)).trans ?_
  refine (asw_f (by decide)).trans ?_
  refine (asw_f (by decide)).trans ?_
  refine (asw_f (by decide)).trans ?_
  refine (asw_f (by decide)).trans ?_
  refine (asw_f (by decide)).trans ?_
  refine (asw_f (by decide)).trans ?_
  refine (asw_f (by decide)).trans ?_
  refine (asw_f (by decide)).trans ?_
  refine (asw_f (by decide)).trans ?_
  refine (asw_f (by decide)).trans ?_
  refine (asw_f (by decide)).trans ?_
  refine (asw_f (by decide)).trans ?_
  refine (asw_f (by decide)).trans ?_
  refine (asw_f (by decide)).trans ?_
  refine (asw_f (by decide)).trans ?_
  refine (asw_f (by decide)).trans ?_
  refine (asw_f (by decide)).trans ?_
  refine (asw_f (by decide)).trans ?_
  refine (asw_f (by decide)).trans ?_
  refine (asw_f (by decide)).trans ?_
  refine (asw_f (by decide)).trans ?_
  refine (asw_f (by decide)).trans ?_
  refine (asw_f (by decide)).trans ?_
  refine (asw_f (by decide)).trans ?_
  refine (asw_f (by decide)).trans ?_
  refine (asw_f (by decide)).trans ?_
  refine (asw_f (by decide)).trans ?_
  refine (asw_f (by decide)).trans ?_
  refine (asw_f (by decide)).trans ?_
  refine (asw_f (by decide)).trans ?_
  refine (asw_f (by decide)).trans ?_
  refine (asw_f (by decide)).trans ?_
  refine (asw_t (by decide)).trans ?_
  refine (r_aloadn f333_1500 rfl).trans ?_
  refine (r_aloadnX f333_1501 rfl).trans ?_
  refine (r_iloadn f333_1502 rfl).trans ?_
  refine (r_iconst (v := 1) f333_1503 rfl).trans ?_
  refine (r_iadd (v := 1) f333_1504 (by decide)).trans ?_
  refine (r_xld (v := (xs 1)) f333_1505 hX (by decide) rfl).trans ?_
  refine (r_aloadnX f333_1506 rfl).trans ?_
  refine (r_iloadn f333_1507 rfl).trans ?_
  refine (r_iconst (v := 2) f333_1508 rfl).trans ?_
  refine (r_iadd (v := 2) f333_1509 (by decide)).trans ?_
  refine (r_xld (v := (xs 2)) f333_1510 hX (by decide) rfl).trans ?_
  refine (r_aloadnX f333_1511 rfl).trans ?_
  refine (r_iloadn f333_1512 rfl).trans ?_
  refine (r_iconst (v := 3) f333_1513 rfl).trans ?_
  refine (r_iadd (v := 3) f333_1514 (by decide)).trans ?_
  refine (r_xld (v := (xs 3)) f333_1515 hX (by decide) rfl).trans ?_
  refine (r_virt (as := [.int (xs 1), .int (xs 2), .int (xs 3)]) (v := (some (.int v))) (h1 := h1) f333_1516 zh0 zg180 rfl rfl rfl rfl rfl rfl (ce (by omega) (e1 X (n + 1971) (d + 9)))).trans ?_
  refine (r_aloadn f333_1519 rfl).trans ?_
  refine (r_aloadnX f333_1520 rfl).trans ?_
  refine (r_iloadn f333_1521 rfl).trans ?_
  refine (r_iconst (v := 1) f333_1522 rfl).trans ?_
  refine (r_iadd (v := 1) f333_1523 (by decide)).trans ?_
  refine (r_xld (v := (xs 1)) f333_1524 hX (by decide) rfl).trans ?_
  refine (r_aloadnX f333_1525 rfl).trans ?_
  refine (r_iloadn f333_1526 rfl).trans ?_
  refine (r_iconst (v := 2) f333_1527 rfl).trans ?_
  refine (r_iadd (v := 2) f333_1528 (by decide)).trans ?_
  refine (r_xld (v := (xs 2)) f333_1529 hX (by decide) rfl).trans ?_
  refine (r_aloadnX f333_1530 rfl).trans ?_
  refine (r_iloadn f333_1531 rfl).trans ?_
  refine (r_iconst (v := 3) f333_1532 rfl).trans ?_
  refine (r_iadd (v := 3) f333_1533 (by decide)).trans ?_
  refine (r_xld (v := (xs 3)) f333_1534 hX (by decide) rfl).trans ?_
  refine (r_virt (as := [.int (xs 1), .int (xs 2), .int (xs 3)]) (v := (some (.int v))) (h1 := h2) f333_1535 g72 zg298 rfl rfl rfl rfl rfl rfl (ce (by omega) (e2 X (n + 1954) (d + 9)))).trans ?_
  refine (r_icmp_eq_t f333_1538 rfl).trans ?_
  refine (r_iinc (v := 6) (L' := [some (.retAddr 1), some (.ref 0), some (.ref 72), some (.int 6)]) f333_2076 rfl rfl rfl).trans ?_
  refine (r_goto f333_2079).trans ?_
  refine (r_iloadn f333_18 rfl).trans ?_
  refine (r_aloadnX f333_19 rfl).trans ?_
  refine (r_xlen (v := 6) f333_20 hX rfl).trans ?_
  refine (r_bipush (v := 6) f333_21 rfl).trans ?_
  refine (r_isub (v := 0) f333_23 (by decide)).trans ?_
  refine (r_icmp_gt_t f333_24 (by decide)).trans ?_
  refine (r_iconst (v := 1) f333_2082 rfl).trans ?_
  exact r_zreturn f333_2083 rfl (by decide)
set_option maxRecDepth 20000 in
theorem lc_37 {X : aX} {xs : Nat → Int32} (hX : X 1 = some (6, xs)) (hk : xs 0 &&& 63 = 37) : ∃ h2 : aH, (∀ n d : Nat, arun X (n + 1002000) (d + 30) zM333 18 [some (.retAddr 1), some (.ref 0), some (.ref 72), some (.int 0)] [] zH0 = some (some (.int 1), h2)) ∧ h2.1.length ≤ 600000 ∧ h2.2 ≤ 7302250 := by
  obtain ⟨v, h1, h2, e1, e2, g72, s1, s2⟩ := pc_37 (xs 1)
  refine ⟨h2, fun n d => ?_, s1, s2⟩
  refine (r_iloadn f333_18 rfl).trans ?_
  refine (r_aloadnX f333_19 rfl).trans ?_
  refine (r_xlen (v := 6) f333_20 hX rfl).trans ?_
  refine (r_bipush (v := 6) f333_21 rfl).trans ?_
  refine (r_isub (v := 0) f333_23 (by decide)).trans ?_
  refine (r_icmp_gt_f f333_24 (by decide)).trans ?_
  refine (r_aloadnX f333_27 rfl).trans ?_
  refine (r_iloadn f333_28 rfl).trans ?_
  refine (r_xld (v := (xs 0)) f333_29 hX (by decide) rfl).trans ?_
  refine (r_bipush (v := 63) f333_30 rfl).trans ?_
  refine (r_iand (v := 37) f333_32 hk).trans ?_
  refine (r_tsw f333_33).trans ?_
  refine (asw_f (by decide)).trans ?_
  refine (asw_f (by decide)).trans ?_
  refine (asw_f (by decide)).trans ?_
  refine (asw_f (by decide)).trans ?_
  refine (asw_f (by decide)).trans ?_
  refine (asw_f (by decide)).trans ?_
  refine (asw_f (by decide)).trans ?_
  refine (asw_f (by decide)).trans ?_
  refine (asw_f (by decide)).trans ?_
  refine (asw_f (by decide)).trans ?_
  refine (asw_f (by decide)).trans ?_
  refine (asw_f (by decide)).trans ?_
  refine (asw_f (by decide)).trans ?_
  refine (asw_f (by decide)).trans ?_
  refine (asw_f (by decide)).trans ?_
  refine (asw_f (by decide)).trans ?_
  refine (asw_f (by decide)).trans ?_
  refine (asw_f (by decide)).trans ?_
  refine (asw_f (by decide)).trans ?_
  refine (asw_f (by decide)).trans ?_
  refine (asw_f (by decide)).trans ?_
  refine (asw_f (by decide)).trans ?_
  refine (asw_f (by decide)).trans ?_
  refine (asw_f (by decide)).trans ?_
  refine (asw_f (by decide)).trans ?_
  refine (asw_f (by decide)).trans ?_
  refine (asw_f (by decide)).trans ?_
  refine (asw_f (by decide)).trans ?_
  refine (asw_f (by decide)).trans ?_
  refine (asw_f (by decide)).trans ?_
  refine (asw_f (by decide)).trans ?_
  refine (asw_f (by decide)).trans ?_
  refine (asw_f (by decide)).trans ?_
  refine (asw_f (by decide)).trans ?_
  refine (asw_f (by decide)).trans ?_
  refine (asw_f (by decide)).trans ?_
  refine (asw_f (by decide)).trans ?_
  refine (asw_t (by decide)).trans ?_
  refine (r_aloadn f333_1543 rfl).trans ?_
  refine (r_aloadnX f333_1544 rfl).trans ?_
  refine (r_iloadn f333_1545 rfl).trans ?_
  refine (r_iconst (v := 1) f333_1546 rfl).trans ?_
  refine (r_iadd (v := 1) f333_1547 (by decide)).trans ?_
  refine (r_xld (v := (xs 1)) f333_1548 hX (by decide) rfl).trans ?_
  refine (r_virt (as := [.int (xs 1)]) (v := (some (.int v))) (h1 := h1) f333_1549 zh0 zg181 rfl rfl rfl rfl rfl rfl (ce (by omega) (e1 X (n + 1981) (d + 9)))).trans ?_
  refine (r_aloadn f333_1552 rfl).trans ?_
  refine (r_aloadnX f333_1553 rfl).trans ?_
  refine (r_iloadn f333_1554 rfl).trans ?_
  refine (r_iconst (v := 1) f333_1555 rfl).trans ?_
  refine (r_iadd (v := 1) f333_1556 (by decide)).trans ?_
  refine (r_xld (v := (xs 1)) f333_1557 hX (by decide) rfl).trans ?_
  refine (r_virt (as := [.int (xs 1)]) (v := (some (.int v))) (h1 := h2) f333_1558 g72 zg299 rfl rfl rfl rfl rfl rfl (ce (by omega) (e2 X (n + 1974) (d + 9)))).trans ?_
  refine (r_icmp_eq_t f333_1561 rfl).trans ?_
  refine (r_iinc (v := 6) (L' := [some (.retAddr 1), some (.ref 0), some (.ref 72), some (.int 6)]) f333_2076 rfl rfl rfl).trans ?_
  refine (r_goto f333_2079).trans ?_
  refine (r_iloadn f333_18 rfl).trans ?_
  refine (r_aloadnX f333_19 rfl).trans ?_
  refine (r_xlen (v := 6) f333_20 hX rfl).trans ?_
  refine (r_bipush (v := 6) f333_21 rfl).trans ?_
  refine (r_isub (v := 0) f333_23 (by decide)).trans ?_
  refine (r_icmp_gt_t f333_24 (by decide)).trans ?_
  refine (r_iconst (v := 1) f333_2082 rfl).trans ?_
  exact r_zreturn f333_2083 rfl (by decide)
set_option maxRecDepth 20000 in
theorem lc_38 {X : aX} {xs : Nat → Int32} (hX : X 1 = some (6, xs)) (hk : xs 0 &&& 63 = 38) : ∃ h2 : aH, (∀ n d : Nat, arun X (n + 1002000) (d + 30) zM333 18 [some (.retAddr 1), some (.ref 0), some (.ref 72), some (.int 0)] [] zH0 = some (some (.int 1), h2)) ∧ h2.1.length ≤ 600000 ∧ h2.2 ≤ 7302250 := by
  obtain ⟨v, h1, h2, e1, e2, g72, s1, s2⟩ := pc_38 (xs 1) (xs 2)
  refine ⟨h2, fun n d => ?_, s1, s2⟩
  refine (r_iloadn f333_18 rfl).trans ?_
  refine (r_aloadnX f333_19 rfl).trans ?_
  refine (r_xlen (v := 6) f333_20 hX rfl).trans ?_
  refine (r_bipush (v := 6) f333_21 rfl).trans ?_
  refine (r_isub (v := 0) f333_23 (by decide)).trans ?_
  refine (r_icmp_gt_f f333_24 (by decide)).trans ?_
  refine (r_aloadnX f333_27 rfl).trans ?_
  refine (r_iloadn f333_28 rfl).trans ?_
  refine (r_xld (v := (xs 0)) f333_29 hX (by decide) rfl).trans ?_
  refine (r_bipush (v := 63) f333_30 rfl).trans ?_
  refine (r_iand (v := 38) f333_32 hk).trans ?_
  refine (r_tsw f333_33).trans ?_
  refine (asw_f (by decide)).trans ?_
  refine (asw_f (by decide)).trans ?_
  refine (asw_f (by decide)).trans ?_
  refine (asw_f (by decide)).trans ?_
  refine (asw_f (by decide)).trans ?_
  refine (asw_f (by decide)).trans ?_
  refine (asw_f (by decide)).trans ?_
  refine (asw_f (by decide)).trans ?_
  refine (asw_f (by decide)).trans ?_
  refine (asw_f (by decide)).trans ?_
  refine (asw_f (by decide)).trans ?_
  refine (asw_f (by decide)).trans ?_
  refine (asw_f (by decide)).trans ?_
  refine (asw_f (by decide)).trans ?_
  refine (asw_f (by decide)).trans ?_
  refine (asw_f (by decide)).trans ?_
  refine (asw_f (by decide)).trans ?_
  refine (asw_f (by decide)).trans ?_
  refine (asw_f (by decide)).trans ?_
  refine (asw_f (by decide)).trans ?_
  refine (asw_f (by decide)).trans ?_
  refine (asw_f (by decide)).trans ?_
  refine (asw_f (by decide)).trans ?_
  refine (asw_f (by decide)).trans ?_
  refine (asw_f (by decide)).trans ?_
  refine (asw_f (by decide)).trans ?_
  refine (asw_f (by decide)).trans ?_
  refine (asw_f (by decide)).trans ?_
  refine (asw_f (by decide)).trans ?_
  refine (asw_f (by decide)).trans ?_
  refine (asw_f (by decide)).trans ?_
  refine (asw_f (by decide)).trans ?_
  refine (asw_f (by decide)).trans ?_
  refine (asw_f (by decide)).trans ?_
  refine (asw_f (by decide)).trans ?_
  refine (asw_f (by decide)).trans ?_
  refine (asw_f (by decide)).trans ?_
  refine (asw_f (by decide)).trans ?_
  refine (asw_t (by decide)).trans ?_
  refine (r_aloadn f333_1566 rfl).trans ?_
  refine (r_aloadnX f333_1567 rfl).trans ?_
  refine (r_iloadn f333_1568 rfl).trans ?_
  refine (r_iconst (v := 1) f333_1569 rfl).trans ?_
  refine (r_iadd (v := 1) f333_1570 (by decide)).trans ?_
  refine (r_xld (v := (xs 1)) f333_1571 hX (by decide) rfl).trans ?_
  refine (r_aloadnX f333_1572 rfl).trans ?_
  refine (r_iloadn f333_1573 rfl).trans ?_
  refine (r_iconst (v := 2) f333_1574 rfl).trans ?_
  refine (r_iadd (v := 2) f333_1575 (by decide)).trans ?_
  refine (r_xld (v := (xs 2)) f333_1576 hX (by decide) rfl).trans ?_
  refine (r_virt (as := [.int (xs 1), .int (xs 2)]) (v := (some (.int v))) (h1 := h1) f333_1577 zh0 zg182 rfl rfl rfl rfl rfl rfl (ce (by omega) (e1 X (n + 1976) (d + 9)))).trans ?_
  refine (r_aloadn f333_1580 rfl).trans ?_
  refine (r_aloadnX f333_1581 rfl).trans ?_
  refine (r_iloadn f333_1582 rfl).trans ?_
  refine (r_iconst (v := 1) f333_1583 rfl).trans ?_
  refine (r_iadd (v := 1) f333_1584 (by decide)).trans ?_
  refine (r_xld (v := (xs 1)) f333_1585 hX (by decide) rfl).trans ?_
  refine (r_aloadnX f333_1586 rfl).trans ?_
  refine (r_iloadn f333_1587 rfl).trans ?_
  refine (r_iconst (v := 2) f333_1588 rfl).trans ?_
  refine (r_iadd (v := 2) f333_1589 (by decide)).trans ?_
  refine (r_xld (v := (xs 2)) f333_1590 hX (by decide) rfl).trans ?_
  refine (r_virt (as := [.int (xs 1), .int (xs 2)]) (v := (some (.int v))) (h1 := h2) f333_1591 g72 zg300 rfl rfl rfl rfl rfl rfl (ce (by omega) (e2 X (n + 1964) (d + 9)))).trans ?_
  refine (r_icmp_eq_t f333_1594 rfl).trans ?_
  refine (r_iinc (v := 6) (L' := [some (.retAddr 1), some (.ref 0), some (.ref 72), some (.int 6)]) f333_2076 rfl rfl rfl).trans ?_
  refine (r_goto f333_2079).trans ?_
  refine (r_iloadn f333_18 rfl).trans ?_
  refine (r_aloadnX f333_19 rfl).trans ?_
  refine (r_xlen (v := 6) f333_20 hX rfl).trans ?_
  refine (r_bipush (v := 6) f333_21 rfl).trans ?_
  refine (r_isub (v := 0) f333_23 (by decide)).trans ?_
  refine (r_icmp_gt_t f333_24 (by decide)).trans ?_
  refine (r_iconst (v := 1) f333_2082 rfl).trans ?_
  exact r_zreturn f333_2083 rfl (by decide)
set_option maxRecDepth 20000 in
theorem lc_39 {X : aX} {xs : Nat → Int32} (hX : X 1 = some (6, xs)) (hk : xs 0 &&& 63 = 39) : ∃ h2 : aH, (∀ n d : Nat, arun X (n + 1002000) (d + 30) zM333 18 [some (.retAddr 1), some (.ref 0), some (.ref 72), some (.int 0)] [] zH0 = some (some (.int 1), h2)) ∧ h2.1.length ≤ 600000 ∧ h2.2 ≤ 7302250 := by
  obtain ⟨v, h1, h2, e1, e2, g72, s1, s2⟩ := pc_39 (xs 1) (xs 2)
  refine ⟨h2, fun n d => ?_, s1, s2⟩
  refine (r_iloadn f333_18 rfl).trans ?_
  refine (r_aloadnX f333_19 rfl).trans ?_
  refine (r_xlen (v := 6) f333_20 hX rfl).trans ?_
  refine (r_bipush (v := 6) f333_21 rfl).trans ?_
  refine (r_isub (v := 0) f333_23 (by decide)).trans ?_
  refine (r_icmp_gt_f f333_24 (by decide)).trans ?_
  refine (r_aloadnX f333_27 rfl).trans ?_
  refine (r_iloadn f333_28 rfl).trans ?_
  refine (r_xld (v := (xs 0)) f333_29 hX (by decide) rfl).trans ?_
  refine (r_bipush (v := 63) f333_30 rfl).trans ?_
  refine (r_iand (v := 39) f333_32 hk).trans ?_
  refine (r_tsw f333_33).trans ?_
  refine (asw_f (by decide)).trans ?_
  refine (asw_f (by decide)).trans ?_
  refine (asw_f (by decide)).trans ?_
  refine (asw_f (by decide)).trans ?_
  refine (asw_f (by decide)).trans ?_
  refine (asw_f (by decide)).trans ?_
  refine (asw_f (by decide)).trans ?_
  refine (asw_f (by decide)).trans ?_
  refine (asw_f (by decide)).trans ?_
  refine (asw_f (by decide)).trans ?_
  refine (asw_f (by decide)).trans ?_
  refine (asw_f (by decide)).trans ?_
  refine (asw_f (by decide)).trans ?_
  refine (asw_f (by decide)).trans ?_
  refine (asw_f (by decide)).trans ?_
  refine (asw_f (by decide)).trans ?_
  refine (asw_f (by decide)).trans ?_
  refine (asw_f (by decide)).trans ?_
  refine (asw_f (by decide)).trans ?_
  refine (asw_f (by decide)).trans ?_
  refine (asw_f (by decide)).trans ?_
  refine (asw_f (by decide)).trans ?_
  refine (asw_f (by decide)).trans ?_
  refine (asw_f (by decide)).trans ?_
  refine (asw_f (by decide)).trans ?_
  refine (asw_f (by decide)).trans ?_
  refine (asw_f (by decide)).trans ?_
  refine (asw_f (by decide)).trans ?_
  refine (asw_f (by decide)).trans ?_
  refine (asw_f (by decide)).trans ?_
  refine (asw_f (by decide)).trans ?_
  refine (asw_f (by decide)).trans ?_
  refine (asw_f (by decide)).trans ?_
  refine (asw_f (by decide)).trans ?_
  refine (asw_f (by decide)).trans ?_
  refine (asw_f (by decide)).trans ?_
  refine (asw_f (by decide)).trans ?_
  refine (asw_f (by decide)).trans ?_
  refine (asw_f (by decide)).trans ?_
  refine (asw_t (by decide)).trans ?_
  refine (r_aloadn f333_1599 rfl).trans ?_
  refine (r_aloadnX f333_1600 rfl).trans ?_
  refine (r_iloadn f333_1601 rfl).trans ?_
  refine (r_iconst (v := 1) f333_1602 rfl).trans ?_
  refine (r_iadd (v := 1) f333_1603 (by decide)).trans ?_
  refine (r_xld (v := (xs 1)) f333_1604 hX (by decide) rfl).trans ?_
  refine (r_aloadnX f333_1605 rfl).trans ?_
  refine (r_iloadn f333_1606 rfl).trans ?_
  refine (r_iconst (v := 2) f333_1607 rfl).trans ?_
  refine (r_iadd (v := 2) f333_1608 (by decide)).trans ?_
  refine (r_xld (v := (xs 2)) f333_1609 hX (by decide) rfl).trans ?_
  refine (r_virt (as := [.int (xs 1), .int (xs 2)]) (v := (some (.int v))) (h1 := h1) f333_1610 zh0 zg183 rfl rfl rfl rfl rfl rfl (ce (by omega) (e1 X (n + 1976) (d + 9)))).trans ?_
  refine (r_aloadn f333_1613 rfl).trans ?_
  refine (r_aloadnX f333_1614 rfl).trans ?_
  refine (r_iloadn f333_1615 rfl).trans ?_
  refine (r_iconst (v := 1) f333_1616 rfl).trans ?_
  refine (r_iadd (v := 1) f333_1617 (by decide)).trans ?_
  refine (r_xld (v := (xs 1)) f333_1618 hX (by decide) rfl).trans ?_
  refine (r_aloadnX f333_1619 rfl).trans ?_
  refine (r_iloadn f333_1620 rfl).trans ?_
  refine (r_iconst (v := 2) f333_1621 rfl).trans ?_
  refine (r_iadd (v := 2) f333_1622 (by decide)).trans ?_
  refine (r_xld (v := (xs 2)) f333_1623 hX (by decide) rfl).trans ?_
  refine (r_virt (as := [.int (xs 1), .int (xs 2)]) (v := (some (.int v))) (h1 := h2) f333_1624 g72 zg302 rfl rfl rfl rfl rfl rfl (ce (by omega) (e2 X (n + 1964) (d + 9)))).trans ?_
  refine (r_icmp_eq_t f333_1627 rfl).trans ?_
  refine (r_iinc (v := 6) (L' := [some (.retAddr 1), some (.ref 0), some (.ref 72), some (.int 6)]) f333_2076 rfl rfl rfl).trans ?_
  refine (r_goto f333_2079).trans ?_
  refine (r_iloadn f333_18 rfl).trans ?_
  refine (r_aloadnX f333_19 rfl).trans ?_
  refine (r_xlen (v := 6) f333_20 hX rfl).trans ?_
  refine (r_bipush (v := 6) f333_21 rfl).trans ?_
  refine (r_isub (v := 0) f333_23 (by decide)).trans ?_
  refine (r_icmp_gt_t f333_24 (by decide)).trans ?_
  refine (r_iconst (v := 1) f333_2082 rfl).trans ?_
  exact r_zreturn f333_2083 rfl (by decide)
set_option maxRecDepth 20000 in
theorem lc_40 {X : aX} {xs : Nat → Int32} (hX : X 1 = some (6, xs)) (hk : xs 0 &&& 63 = 40) : ∃ h2 : aH, (∀ n d : Nat, arun X (n + 1002000) (d + 30) zM333 18 [some (.retAddr 1), some (.ref 0), some (.ref 72), some (.int 0)] [] zH0 = some (some (.int 1), h2)) ∧ h2.1.length ≤ 600000 ∧ h2.2 ≤ 7302250 := by
  obtain ⟨v, h1, h2, e1, e2, g72, s1, s2⟩ := pc_40 (xs 1)
  refine ⟨h2, fun n d => ?_, s1, s2⟩
  refine (r_iloadn f333_18 rfl).trans ?_
  refine (r_aloadnX f333_19 rfl).trans ?_
  refine (r_xlen (v := 6) f333_20 hX rfl).trans ?_
  refine (r_bipush (v := 6) f333_21 rfl).trans ?_
  refine (r_isub (v := 0) f333_23 (by decide)).trans ?_
  refine (r_icmp_gt_f f333_24 (by decide)).trans ?_
  refine (r_aloadnX f333_27 rfl).trans ?_
  refine (r_iloadn f333_28 rfl).trans ?_
  refine (r_xld (v := (xs 0)) f333_29 hX (by decide) rfl).trans ?_
  refine (r_bipush (v := 63) f333_30 rfl).trans ?_
  refine (r_iand (v := 40) f333_32 hk).trans ?_
  refine (r_tsw f333_33).trans ?_
  refine (asw_f (by decide)).trans ?_
  refine (asw_f (by decide)).trans ?_
  refine (asw_f (by decide)).trans ?_
  refine (asw_f (by decide)).trans ?_
  refine (asw_f (by decide)).trans ?_
  refine (asw_f (by decide)).trans ?_
  refine (asw_f (by decide)).trans ?_
  refine (asw_f (by decide)).trans ?_
  refine (asw_f (by decide)).trans ?_
  refine (asw_f (by decide)).trans ?_
  refine (asw_f (by decide)).trans ?_
  refine (asw_f (by decide)).trans ?_
  refine (asw_f (by decide)).trans ?_
  refine (asw_f (by decide)).trans ?_
  refine (asw_f (by decide)).trans ?_
  refine (asw_f (by decide)).trans ?_
  refine (asw_f (by decide)).trans ?_
  refine (asw_f (by decide)).trans ?_
  refine (asw_f (by decide)).trans ?_
  refine (asw_f (by decide)).trans ?_
  refine (asw_f (by decide)).trans ?_
  refine (asw_f (by decide)).trans ?_
  refine (asw_f (by decide)).trans ?_
  refine (asw_f (by decide)).trans ?_
  refine (asw_f (by decide)).trans ?_
  refine (asw_f (by decide)).trans ?_
  refine (asw_f (by decide)).trans ?_
  refine (asw_f (by decide)).trans ?_
  refine (asw_f (by decide)).trans ?_
  refine (asw_f (by decide)).trans ?_
  refine (asw_f (by decide)).trans ?_
  refine (asw_f (by decide)).trans ?_
  refine (asw_f (by decide)).trans ?_
  refine (asw_f (by decide)).trans ?_
  refine (asw_f (by decide)).trans ?_
  refine (asw_f (by decide)).trans ?_
  refine (asw_f (by decide)).trans ?_
  refine (asw_f (by decide)).trans ?_
  refine (asw_f (by decide)).trans ?_
  refine (asw_f (by decide)).trans ?_
  refine (asw_t (by decide)).trans ?_
  refine (r_aloadn f333_1632 rfl).trans ?_
  refine (r_aloadnX f333_1633 rfl).trans ?_
  refine (r_iloadn f333_1634 rfl).trans ?_
  refine (r_iconst (v := 1) f333_1635 rfl).trans ?_
  refine (r_iadd (v := 1) f333_1636 (by decide)).trans ?_
  refine (r_xld (v := (xs 1)) f333_1637 hX (by decide) rfl).trans ?_
  refine (r_virt (as := [.int (xs 1)]) (v := (some (.int v))) (h1 := h1) f333_1638 zh0 zg184 rfl rfl rfl rfl rfl rfl (ce (by omega) (e1 X (n + 1981) (d + 9)))).trans ?_
  refine (r_aloadn f333_1641 rfl).trans ?_
  refine (r_aloadnX f333_1642 rfl).trans ?_
  refine (r_iloadn f333_1643 rfl).trans ?_
  refine (r_iconst (v := 1) f333_1644 rfl).trans ?_
  refine (r_iadd (v := 1) f333_1645 (by decide)).trans ?_
  refine (r_xld (v := (xs 1)) f333_1646 hX (by decide) rfl).trans ?_
  refine (r_virt (as := [.int (xs 1)]) (v := (some (.int v))) (h1 := h2) f333_1647 g72 zg303 rfl rfl rfl rfl rfl rfl (ce (by omega) (e2 X (n + 1974) (d + 9)))).trans ?_
  refine (r_icmp_eq_t f333_1650 rfl).trans ?_
  refine (r_iinc (v := 6) (L' := [some (.retAddr 1), some (.ref 0), some (.ref 72), some (.int 6)]) f333_2076 rfl rfl rfl).trans ?_
  refine (r_goto f333_2079).trans ?_
  refine (r_iloadn f333_18 rfl).trans ?_
  refine (r_aloadnX f333_19 rfl).trans ?_
  refine (r_xlen (v := 6) f333_20 hX rfl).trans ?_
  refine (r_bipush (v := 6) f333_21 rfl).trans ?_
  refine (r_isub (v := 0) f333_23 (by decide)).trans ?_
  refine (r_icmp_gt_t f333_24 (by decide)).trans ?_
  refine (r_iconst (v := 1) f333_2082 rfl).trans ?_
  exact r_zreturn f333_2083 rfl (by decide)
set_option maxRecDepth 20000 in
theorem lc_41 {X : aX} {xs : Nat → Int32} (hX : X 1 = some (6, xs)) (hk : xs 0 &&& 63 = 41) : ∃ h2 : aH, (∀ n d : Nat, arun X (n + 1002000) (d + 30) zM333 18 [some (.retAddr 1), some (.ref 0), some (.ref 72), some (.int 0)] [] zH0 = some (some (.int 1), h2)) ∧ h2.1.length ≤ 600000 ∧ h2.2 ≤ 7302250 := by
  obtain ⟨v, h1, h2, e1, e2, g72, s1, s2⟩ := pc_41 (xs 1) (xs 2) (xs 3) (xs 4)
  refine ⟨h2, fun n d => ?_, s1, s2⟩
  refine (r_iloadn f333_18 rfl).trans ?_
  refine (r_aloadnX f333_19 rfl).trans ?_
  refine (r_xlen (v := 6) f333_20 hX rfl).trans ?_
  refine (r_bipush (v := 6) f333_21 rfl).trans ?_
  refine (r_isub (v := 0) f333_23 (by decide)).trans ?_
  refine (r_icmp_gt_f f333_24 (by decide)).trans ?_
  refine (r_aloadnX f333_27 rfl).trans ?_
  refine (r_iloadn f333_28 rfl).trans ?_
  refine (r_xld (v := (xs 0)) f333_29 hX (by decide) rfl).trans ?_
  refine (r_bipush (v := 63) f333_30 rfl).trans ?_
  refine (r_iand (v := 41) f333_32 hk).trans ?_
  refine (r_tsw f333_33).trans ?_
  refine (asw_f (by decide)).trans ?_
  refine (asw_f (by decide)).trans ?_
  refine (asw_f (by decide)).trans ?_
  refine (asw_f (by decide)).trans ?_
  refine (asw_f (by decide)).trans ?_
  refine (asw_f (by decide)).trans ?_
  refine (asw_f (by decide)).trans ?_
  refine (asw_f (by decide)).trans ?_
  refine (asw_f (by decide)).trans ?_
  refine (asw_f (by decide)).trans ?_
  refine (asw_f (by decide)).trans ?_
  refine (asw_f (by decide)).trans ?_
  refine (asw_f (by decide)).trans ?_
  refine (asw_f (by decide)).trans ?_
  refine (asw_f (by decide)).trans ?_
  refine (asw_f (by decide)).trans ?_
  refine (asw_f (by decide)).trans ?_
  refine (asw_f (by decide)).trans ?_
  refine (asw_f (by decide)).trans ?_
  refine (asw_f (by decide)).trans ?_
  refine (asw_f (by decide)).trans ?_
  refine (asw_f (by decide)).trans ?_
  refine (asw_f (by decide)).trans ?_
  refine (asw_f (by decide)).trans ?_
  refine (asw_f (by decide)).trans ?_
  refine (asw_f (by decide)).trans ?_
  refine (asw_f (by decide)).trans ?_
  refine (asw_f (by decide)).trans ?_
  refine (asw_f (by decide)).trans ?_
  refine (asw_f (by decide)).trans ?_
  refine (asw_f (by decide)).trans ?_
  refine (asw_f (by decide)).trans ?_
  refine (asw_f (by decide)).trans ?_
  refine (asw_f (by decide)).trans ?_
  refine (asw_f (by decide)).trans ?_
  refine (asw_f (by decide)).trans ?_
  refine (asw_f (by decide)).trans ?_
  refine (asw_f (by decide)).trans ?_
  refine (asw_f (by decide)).trans ?_
  refine (asw_f (by decide)).trans ?_
  refine (asw_f (by decide)).trans ?_
  refine (asw_t (by decide)).trans ?_
  refine (r_aloadn f333_1655 rfl).trans ?_
  refine (r_aloadnX f333_1656 rfl).trans ?_
  refine (r_iloadn f333_1657 rfl).trans ?_
  refine (r_iconst (v := 1) f333_1658 rfl).trans ?_
  refine (r_iadd (v := 1) f333_1659 (by decide)).trans ?_
  refine (r_xld (v := (xs 1)) f333_1660 hX (by decide) rfl).trans ?_
  refine (r_aloadnX f333_1661 rfl).trans ?_
  refine (r_iloadn f333_1662 rfl).trans ?_
  refine (r_iconst (v := 2) f333_1663 rfl).trans ?_
  refine (r_iadd (v := 2) f333_1664 (by decide)).trans ?_
  refine (r_xld (v := (xs 2)) f333_1665 hX (by decide) rfl).trans ?_
  refine (r_aloadnX f333_1666 rfl).trans ?_
  refine (r_iloadn f333_1667 rfl).trans ?_
  refine (r_iconst (v := 3) f333_1668 rfl).trans ?_
  refine (r_iadd (v := 3) f333_1669 (by decide)).trans ?_
  refine (r_xld (v := (xs 3)) f333_1670 hX (by decide) rfl).trans ?_
  refine (r_aloadnX f333_1671 rfl).trans ?_
  refine (r_iloadn f333_1672 rfl).trans ?_
  refine (r_iconst (v := 4) f333_1673 rfl).trans ?_
  refine (r_iadd (v := 4) f333_1674 (by decide)).trans ?_
  refine (r_xld (v := (xs 4)) f333_1675 hX (by decide) rfl).trans ?_
  refine (r_virt (as := [.int (xs 1), .int (xs 2), .int (xs 3), .int (xs 4)]) (v := (some (.int v))) (h1 := h1) f333_1676 zh0 zg185 rfl rfl rfl rfl rfl rfl (ce (by omega) (e1 X (n + 1966) (d + 9)))).trans ?_
  refine (r_aloadn f333_1679 rfl).trans ?_
  refine (r_aloadnX f333_1680 rfl).trans ?_
  refine (r_iloadn f333_1681 rfl).trans ?_
  refine (r_iconst (v := 1) f333_1682 rfl).trans ?_
  refine (r_iadd (v := 1) f333_1683 (by decide)).trans ?_
  refine (r_xld (v := (xs 1)) f333_1684 hX (by decide) rfl).trans ?_
  refine (r_aloadnX f333_1685 rfl).trans ?_
  refine (r_iloadn f333_1686 rfl).trans ?_
  refine (r_iconst (v := 2) f333_1687 rfl).trans ?_
  refine (r_iadd (v := 2) f333_1688 (by decide)).trans ?_
  refine (r_xld (v := (xs 2)) f333_1689 hX (by decide) rfl).trans ?_
  refine (r_aloadnX f333_1690 rfl).trans ?_
  refine (r_iloadn f333_1691 rfl).trans ?_
  refine (r_iconst (v := 3) f333_1692 rfl).trans ?_
  refine (r_iadd (v := 3) f333_1693 (by decide)).trans ?_
  refine (r_xld (v := (xs 3)) f333_1694 hX (by decide) rfl).trans ?_
  refine (r_aloadnX f333_1695 rfl).trans ?_
  refine (r_iloadn f333_1696 rfl).trans ?_
  refine (r_iconst (v := 4) f333_1697 rfl).trans ?_
  refine (r_iadd (v := 4) f333_1698 (by decide)).trans ?_
  refine (r_xld (v := (xs 4)) f333_1699 hX (by decide) rfl).trans ?_
  refine (r_virt (as := [.int (xs 1), .int (xs 2), .int (xs 3), .int (xs 4)]) (v := (some (.int v))) (h1 := h2) f333_1700 g72 zg304 rfl rfl rfl rfl rfl rfl (ce (by omega) (e2 X (n + 1944) (d + 9)))).trans ?_
  refine (r_icmp_eq_t f333_1703 rfl).trans ?_
  refine (r_iinc (v := 6) (L' := [some (.retAddr 1), some (.ref 0), some (.ref 72), some (.int 6)]) f333_2076 rfl rfl rfl).trans ?_
  refine (r_goto f333_2079).trans ?_
  refine (r_iloadn f333_18 rfl).trans ?_
  refine (r_aloadnX f333_19 rfl).trans ?_
  refine (r_xlen (v := 6) f333_20 hX rfl).trans ?_
  refine (r_bipush (v := 6) f333_21 rfl).trans ?_
  refine (r_isub (v := 0) f333_23 (by decide)).trans ?_
  refine (r_icmp_gt_t f333_24 (by decide)).trans ?_
  refine (r_iconst (v := 1) f333_2082 rfl).trans ?_
  exact r_zreturn f333_2083 rfl (by decide)
set_option maxRecDepth 20000 in
theorem lc_42 {X : aX} {xs : Nat → Int32} (hX : X 1 = some (6, xs)) (hk : xs 0 &&& 63 = 42) : ∃ h2 : aH, (∀ n d : Nat, arun X (n + 1002000) (d + 30) zM333 18 [some (.retAddr 1), some (.ref 0), some (.ref 72), some (.int 0)] [] zH0 = some (some (.int 1), h2)) ∧ h2.1.length ≤ 600000 ∧ h2.2 ≤ 7302250 := by
  obtain ⟨v, h1, h2, e1, e2, g72, s1, s2⟩ := pc_42 (xs 1) (xs 2) (xs 3)
  refine ⟨h2, fun n d => ?_, s1, s2⟩
  refine (r_iloadn f333_18 rfl).trans ?_
  refine (r_aloadnX f333_19 rfl).trans ?_
  refine (r_xlen (v := 6) f333_20 hX rfl).trans ?_
  refine (r_bipush (v := 6) f333_21 rfl).trans ?_
  refine (r_isub (v := 0) f333_23 (by decide)).trans ?_
  refine (r_icmp_gt_f f333_24 (by decide)).trans ?_
  refine (r_aloadnX f333_27 rfl).trans ?_
  refine (r_iloadn f333_28 rfl).trans ?_
  refine (r_xld (v := (xs 0)) f333_29 hX (by decide) rfl).trans ?_
  refine (r_bipush (v := 63) f333_30 rfl).trans ?_
  refine (r_iand (v := 42) f333_32 hk).trans ?_
  refine (r_tsw f333_33).trans ?_
  refine (asw_f (by decide)).trans ?_
  refine (asw_f (by decide)).trans ?_
  refine (asw_f (by decide)).trans ?_
  refine (asw_f (by decide)).trans ?_
  refine (asw_f (by decide)).trans ?_
  refine (asw_f (by decide)).trans ?_
  refine (asw_f (by decide)).trans ?_
  refine (asw_f (by decide)).trans ?_
  refine (asw_f (by decide)).trans ?_
  refine (asw_f (by decide)).trans ?_
  refine (asw_f (by decide)).trans ?_
  refine (asw_f (by decide)).trans ?_
  refine (asw_f (by decide)).trans ?_
  refine (asw_f (by decide)).trans ?_
  refine (asw_f (by decide)).trans ?_
  refine (asw_f (by decide)).trans ?_
  refine (asw_f (by decide)).trans ?_
  refine (asw_f (by decide)).trans ?_
  refine (asw_f (by decide)).trans ?_
  refine (asw_f (by decide)).trans ?_
  refine (asw_f (by decide)).trans ?_
  refine (asw_f (by decide)).trans ?_
  refine (asw_f (by decide)).trans ?_
  refine (asw_f (by decide)).trans ?_
  refine (asw_f (by decide)).trans ?_
  refine (asw_f (by decide)).trans ?_
  refine (asw_f (by decide)).trans ?_
  refine (asw_f (by decide)).trans ?_
  refine (asw_f (by decide)).trans ?_
  refine (asw_f (by decide)).trans ?_
  refine (asw_f (by decide)).trans ?_
  refine (asw_f (by decide)).trans ?_
  refine (asw_f (by decide)).trans ?_
  refine (asw_f (by decide)).trans ?_
  refine (asw_f (by decide)).trans ?_
  refine (asw_f (by decide)).trans ?_
  refine (asw_f (by decide)).trans ?_
  refine (asw_f (by decide)).trans ?_
  refine (asw_f (by decide)).trans ?_
  refine (asw_f (by decide)).trans ?_
  refine (asw_f (by decide)).trans ?_
  refine (asw_f (by decide)).trans ?_
  refine (asw_t (by decide)).trans ?_
  refine (r_aloadn f333_1708 rfl).trans ?_
  refine (r_aloadnX f333_1709 rfl).trans ?_
  refine (r_iloadn f333_1710 rfl).trans ?_
  refine (r_iconst (v := 1) f333_1711 rfl).trans ?_
  refine (r_iadd (v := 1) f333_1712 (by decide)).trans ?_
  refine (r_xld (v := (xs 1)) f333_1713 hX (by decide) rfl).trans ?_
  refine (r_aloadnX f333_1714 rfl).trans ?_
  refine (r_iloadn f333_1715 rfl).trans ?_
  refine (r_iconst (v := 2) f333_1716 rfl).trans ?_
  refine (r_iadd (v := 2) f333_1717 (by decide)).trans ?_
  refine (r_xld (v := (xs 2)) f333_1718 hX (by decide) rfl).trans ?_
  refine (r_aloadnX f333_1719 rfl).trans ?_
  refine (r_iloadn f333_1720 rfl).trans ?_
  refine (r_iconst (v := 3) f333_1721 rfl).trans ?_
  refine (r_iadd (v := 3) f333_1722 (by decide)).trans ?_
  refine (r_xld (v := (xs 3)) f333_1723 hX (by decide) rfl).trans ?_
  refine (r_virt (as := [.int (xs 1), .int (xs 2), .int (xs 3)]) (v := (some (.int v))) (h1 := h1) f333_1724 zh0 zg186 rfl rfl rfl rfl rfl rfl (ce (by omega) (e1 X (n + 1971) (d + 9)))).trans ?_
  refine (r_aloadn f333_1727 rfl).trans ?_
  refine (r_aloadnX f333_1728 rfl).trans ?_
  refine (r_iloadn f333_1729 rfl).trans ?_
  refine (r_iconst (v := 1) f333_1730 rfl).trans ?_
  refine (r_iadd (v := 1) f333_1731 (by decide)).trans ?_
  refine (r_xld (v := (xs 1)) f333_1732 hX (by decide) rfl).trans ?_
  refine (r_aloadnX f333_1733 rfl).trans ?_
  refine (r_iloadn f333_1734 rfl).trans ?_
  refine (r_iconst (v := 2) f333_1735 rfl).trans ?_
  refine (r_iadd (v := 2) f333_1736 (by decide)).trans ?_
  refine (r_xld (v := (xs 2)) f333_1737 hX (by decide) rfl).trans ?_
  refine (r_aloadnX f333_1738 rfl).trans ?_
  refine (r_iloadn f333_1739 rfl).trans ?_
  refine (r_iconst (v := 3) f333_1740 rfl).trans ?_
  refine (r_iadd (v := 3) f333_1741 (by decide)).trans ?_
  refine (r_xld (v := (xs 3)) f333_1742 hX (by decide) rfl).trans ?_
  refine (r_virt (as := [.int (xs 1), .int (xs 2), .int (xs 3)]) (v := (some (.int v))) (h1 := h2) f333_1743 g72 zg316 rfl rfl rfl rfl rfl rfl (ce (by omega) (e2 X (n + 1954) (d + 9)))).trans ?_
  refine (r_icmp_eq_t f333_1746 rfl).trans ?_
  refine (r_iinc (v := 6) (L' := [some (.retAddr 1), some (.ref 0), some (.ref 72), some (.int 6)]) f333_2076 rfl rfl rfl).trans ?_
  refine (r_goto f333_2079).trans ?_
  refine (r_iloadn f333_18 rfl).trans ?_
  refine (r_aloadnX f333_19 rfl).trans ?_
  refine (r_xlen (v := 6) f333_20 hX rfl).trans ?_
  refine (r_bipush (v := 6) f333_21 rfl).trans ?_
  refine (r_isub (v := 0) f333_23 (by decide)).trans ?_
  refine (r_icmp_gt_t f333_24 (by decide)).trans ?_
  refine (r_iconst (v := 1) f333_2082 rfl).trans ?_
  exact r_zreturn f333_2083 rfl (by decide)
set_option maxRecDepth 20000 in
theorem lc_43 {X : aX} {xs : Nat → Int32} (hX : X 1 = some (6, xs)) (hk : xs 0 &&& 63 = 43) : ∃ h2 : aH, (∀ n d : Nat, arun X (n + 1002000) (d + 30) zM333 18 [some (.retAddr 1), some (.ref 0), some (.ref 72), some (.int 0)] [] zH0 = some (some (.int 1), h2)) ∧ h2.1.length ≤ 600000 ∧ h2.2 ≤ 7302250 := by
  obtain ⟨v, h1, h2, e1, e2, g72, s1, s2⟩ := pc_43 (xs 1)
  refine ⟨h2, fun n d => ?_, s1, s2⟩
  refine (r_iloadn f333_18 rfl).trans ?_
  refine (r_aloadnX f333_19 rfl).trans ?_
  refine (r_xlen (v := 6) f333_20 hX rfl).trans ?_
  refine (r_bipush (v := 6) f333_21 rfl).trans ?_
  refine (r_isub (v := 0) f333_23 (by decide)).trans ?_
  refine (r_icmp_gt_f f333_24 (by decide)).trans ?_
  refine (r_aloadnX f333_27 rfl).trans ?_
  refine (r_iloadn f333_28 rfl).trans ?_
  refine (r_xld (v := (xs 0)) f333_29 hX (by decide) rfl).trans ?_
  refine (r_bipush (v := 63) f333_30 rfl).trans ?_
  refine (r_iand (v := 43) f333_32 hk).trans ?_
  refine (r_tsw f333_33).trans ?_
  refine (asw_f (by decide)).trans ?_
  refine (asw_f (by decide)).trans ?_
  refine (asw_f (by decide)).trans ?_
  refine (asw_f (by decide)).trans ?_
  refine (asw_f (by decide)).trans ?_
  refine (asw_f (by decide)).trans ?_
  refine (asw_f (by decide)).trans ?_
  refine (asw_f (by decide)).trans ?_
  refine (asw_f (by decide)).trans ?_
  refine (asw_f (by decide)).trans ?_
  refine (asw_f (by decide)).trans ?_
  refine (asw_f (by decide)).trans ?_
  refine (asw_f (by decide)).trans ?_
  refine (asw_f (by decide)).trans ?_
  refine (asw_f (by decide)).trans ?_
  refine (asw_f (by decide)).trans ?_
  refine (asw_f (by decide)).trans ?_
  refine (asw_f (by decide)).trans ?_
  refine (asw_f (by decide)).trans ?_
  refine (asw_f (by decide)).trans ?_
  refine (asw_f (by decide)).trans ?_
  refine (asw_f (by decide)).trans ?_
  refine (asw_f (by decide)).trans ?_
  refine (asw_f (by decide)).trans ?_
  refine (asw_f (by decide)).trans ?_
  refine (asw_f (by decide)).trans ?_
  refine (asw_f (by decide)).trans ?_
  refine (asw_f (by decide)).trans ?_
  refine (asw_f (by decide)).trans ?_
  refine (asw_f (by decide)).trans ?_
  refine (asw_f (by decide)).trans ?_
  refine (asw_f (by decide)).trans ?_
  refine (asw_f (by decide)).trans ?_
  refine (asw_f (by decide)).trans ?_
  refine (asw_f (by decide)).trans ?_
  refine (asw_f (by decide)).trans ?_
  refine (asw_f (by decide)).trans ?_
  refine (asw_f (by decide)).trans ?_
  refine (asw_f (by decide)).trans ?_
  refine (asw_f (by decide)).trans ?_
  refine (asw_f (by decide)).trans ?_
  refine (asw_f (by decide)).trans ?_
  refine (asw_f (by decide)).trans ?_
  refine (asw_t (by decide)).trans ?_
  refine (r_aloadn f333_1751 rfl).trans ?_
  refine (r_aloadnX f333_1752 rfl).trans ?_
  refine (r_iloadn f333_1753 rfl).trans ?_
  refine (r_iconst (v := 1) f333_1754 rfl).trans ?_
  refine (r_iadd (v := 1) f333_1755 (by decide)).trans ?_
  refine (r_xld (v := (xs 1)) f333_1756 hX (by decide) rfl).trans ?_
  refine (r_virt (as := [.int (xs 1)]) (v := (some (.int v))) (h1 := h1) f333_1757 zh0 zg187 rfl rfl rfl rfl rfl rfl (ce (by omega) (e1 X (n + 1981) (d + 9)))).trans ?_
  refine (r_aloadn f333_1760 rfl).trans ?_
  refine (r_aloadnX f333_1761 rfl).trans ?_
  refine (r_iloadn f333_1762 rfl).trans ?_
  refine (r_iconst (v := 1) f333_1763 rfl).trans ?_
  refine (r_iadd (v := 1) f333_1764 (by decide)).trans ?_
  refine (r_xld (v := (xs 1)) f333_1765 hX (by decide) rfl).trans ?_
  refine (r_virt (as := [.int (xs 1)]) (v := (some (.int v))) (h1 := h2) f333_1766 g72 zg317 rfl rfl rfl rfl rfl rfl (ce (by omega) (e2 X (n + 1974) (d + 9)))).trans ?_
  refine (r_icmp_eq_t f333_1769 rfl).trans ?_
  refine (r_iinc (v := 6) (L' := [some (.retAddr 1), some (.ref 0), some (.ref 72), some (.int 6)]) f333_2076 rfl rfl rfl).trans ?_
  refine (r_goto f333_2079).trans ?_
  refine (r_iloadn f333_18 rfl).trans ?_
  refine (r_aloadnX f333_19 rfl).trans ?_
  refine (r_xlen (v := 6) f333_20 hX rfl).trans ?_
  refine (r_bipush (v := 6) f333_21 rfl).trans ?_
  refine (r_isub (v := 0) f333_23 (by decide)).trans ?_
  refine (r_icmp_gt_t f333_24 (by decide)).trans ?_
  refine (r_iconst (v := 1) f333_2082 rfl).trans ?_
  exact r_zreturn f333_2083 rfl (by decide)
set_option maxRecDepth 20000 in
theorem lc_44 {X : aX} {xs : Nat → Int32} (hX : X 1 = some (6, xs)) (hk : xs 0 &&& 63 = 44) : ∃ h2 : aH, (∀ n d : Nat, arun X (n + 1002000) (d + 30) zM333 18 [some (.retAddr 1), some (.ref 0), some (.ref 72), some (.int 0)] [] zH0 = some (some (.int 1), h2)) ∧ h2.1.length ≤ 600000 ∧ h2.2 ≤ 7302250 := by
  obtain ⟨v, h1, h2, e1, e2, g72, s1, s2⟩ := pc_44 (xs 1) (xs 2)
  refine ⟨h2, fun n d => ?_, s1, s2⟩
  refine (r_iloadn f333_18 rfl).trans ?_
  refine (r_aloadnX f333_19 rfl).trans ?_
  refine (r_xlen (v := 6) f333_20 hX rfl).trans ?_
  refine (r_bipush (v := 6) f333_21 rfl).trans ?_
  refine (r_isub (v := 0) f333_23 (by decide)).trans ?_
  refine (r_icmp_gt_f f333_24 (by decide)).trans ?_
  refine (r_aloadnX f333_27 rfl).trans ?_
  refine (r_iloadn f333_28 rfl).trans ?_
  refine (r_xld (v := (xs 0)) f333_29 hX (by decide) rfl).trans ?_
  refine (r_bipush (v := 63) f333_30 rfl).trans ?_
  refine (r_iand (v := 44) f333_32 hk).trans ?_
  refine (r_tsw f333_33).trans ?_
  refine (asw_f (by decide)).trans ?_
  refine (asw_f (by decide)).trans ?_
  refine (asw_f (by decide)).trans ?_
  refine (asw_f (by decide)).trans ?_
  refine (asw_f (by decide)).trans ?_
  refine (asw_f (by decide)).trans ?_
  refine (asw_f (by decide)).trans ?_
  refine (asw_f (by decide)).trans ?_
  refine (asw_f (by decide)).trans ?_
  refine (asw_f (by decide)).trans ?_
  refine (asw_f (by decide)).trans ?_
  refine (asw_f (by decide)).trans ?_
  refine (asw_f (by decide)).trans ?_
  refine (asw_f (by decide)).trans ?_
  refine (asw_f (by decide)).trans ?_
  refine (asw_f (by decide)).trans ?_
  refine (asw_f (by decide)).trans ?_
  refine (asw_f (by decide)).trans ?_
  refine (asw_f (by decide)).trans ?_
  refine (asw_f (by decide)).trans ?_
  refine (asw_f (by decide)).trans ?_
  refine (asw_f (by decide)).trans ?_
  refine (asw_f (by decide)).trans ?_
  refine (asw_f (by decide)).trans ?_
  refine (asw_f (by decide)).trans ?_
  refine (asw_f (by decide)).trans ?_
  refine (asw_f (by decide)).trans ?_
  refine (asw_f (by decide)).trans ?_
  refine (asw_f (by decide)).trans ?_
  refine (asw_f (by decide)).trans ?_
  refine (asw_f (by decide)).trans ?_
  refine (asw_f (by decide)).trans ?_
  refine (asw_f (by decide)).trans ?_
  refine (asw_f (by decide)).trans ?_
  refine (asw_f (by decide)).trans ?_
  refine (asw_f (by decide)).trans ?_
  refine (asw_f (by decide)).trans ?_
  refine (asw_f (by decide)).trans ?_
  refine (asw_f (by decide)).trans ?_
  refine (asw_f (by decide)).trans ?_
  refine (asw_f (by decide)).trans ?_
  refine (asw_f (by decide)).trans ?_
  refine (asw_f (by decide)).trans ?_
  refine (asw_f (by decide)).trans ?_
  refine (asw_t (by decide)).trans ?_
  refine (r_aloadn f333_1774 rfl).trans ?_
  refine (r_aloadnX f333_1775 rfl).trans ?_
  refine (r_iloadn f333_1776 rfl).trans ?_
  refine (r_iconst (v := 1) f333_1777 rfl).trans ?_
  refine (r_iadd (v := 1) f333_1778 (by decide)).trans ?_
  refine (r_xld (v := (xs 1)) f333_1779 hX (by decide) rfl).trans ?_
  refine (r_aloadnX f333_1780 rfl).trans ?_
  refine (r_iloadn f333_1781 rfl).trans ?_
  refine (r_iconst (v := 2) f333_1782 rfl).trans ?_
  refine (r_iadd (v := 2) f333_1783 (by decide)).trans ?_
  refine (r_xld (v := (xs 2)) f333_1784 hX (by decide) rfl).trans ?_
  refine (r_virt (as := [.int (xs 1), .int (xs 2)]) (v := (some (.int v))) (h1 := h1) f333_1785 zh0 zg188 rfl rfl rfl rfl rfl rfl (ce (by omega) (e1 X (n + 1976) (d + 9)))).trans ?_
  refine (r_aloadn f333_1788 rfl).trans ?_
  refine (r_aloadnX f333_1789 rfl).trans ?_
  refine (r_iloadn f333_1790 rfl).trans ?_
  refine (r_iconst (v := 1) f333_1791 rfl).trans ?_
  refine (r_iadd (v := 1) f333_1792 (by decide)).trans ?_
  refine (r_xld (v := (xs 1)) f333_1793 hX (by decide) rfl).trans ?_
  refine (r_aloadnX f333_1794 rfl).trans ?_
  refine (r_iloadn f333_1795 rfl).trans ?_
  refine (r_iconst (v := 2) f333_1796 rfl).trans ?_
  refine (r_iadd (v := 2) f333_1797 (by decide)).trans ?_
  refine (r_xld (v := (xs 2)) f333_1798 hX (by decide) rfl).trans ?_
  refine (r_virt (as := [.int (xs 1), .int (xs 2)]) (v := (some (.int v))) (h1 := h2) f333_1799 g72 zg319 rfl rfl rfl rfl rfl rfl (ce (by omega) (e2 X (n + 1964) (d + 9)))).trans ?_
  refine (r_icmp_eq_t f333_1802 rfl).trans ?_
  refine (r_iinc (v := 6) (L' := [some (.retAddr 1), some (.ref 0), some (.ref 72), some (.int 6)]) f333_2076 rfl rfl rfl).trans ?_
  refine (r_goto f333_2079).trans ?_
  refine (r_iloadn f333_18 rfl).trans ?_
  refine (r_aloadnX f333_19 rfl).trans ?_
  refine (r_xlen (v := 6) f333_20 hX rfl).trans ?_
  refine (r_bipush (v := 6) f333_21 rfl).trans ?_
  refine (r_isub (v := 0) f333_23 (by decide)).trans ?_
  refine (r_icmp_gt_t f333_24 (by decide)).trans ?_
  refine (r_iconst (v := 1) f333_2082 rfl).trans ?_
  exact r_zreturn f333_2083 rfl (by decide)
set_option maxRecDepth 20000 in
theorem lc_45 {X : aX} {xs : Nat → Int32} (hX : X 1 = some (6, xs)) (hk : xs 0 &&& 63 = 45) : ∃ h2 : aH, (∀ n d : Nat, arun X (n + 1002000) (d + 30) zM333 18 [some (.retAddr 1), some (.ref 0), some (.ref 72), some (.int 0)] [] zH0 = some (some (.int 1), h2)) ∧ h2.1.length ≤ 600000 ∧ h2.2 ≤ 7302250 := by
  obtain ⟨v, h1, h2, e1, e2, g72, s1, s2⟩ := pc_45 (xs 1) (xs 2) (xs 3)
  refine ⟨h2, fun n d => ?_, s1, s2⟩
  refine (r_iloadn f333_18 rfl).trans ?_
  refine (r_aloadnX f333_19 rfl).trans ?_
  refine (r_xlen (v := 6) f333_20 hX rfl).trans ?_
  refine (r_bipush (v := 6) f333_21 rfl).trans ?_
  refine (r_isub (v := 0) f333_23 (by decide)).trans ?_
  refine (r_icmp_gt_f f333_24 (by decide)).trans ?_
  refine (r_aloadnX f333_27 rfl).trans ?_
  refine (r_iloadn f333_28 rfl).trans ?_
  refine (r_xld (v := (xs 0)) f333_29 hX (by decide) rfl).trans ?_
  refine (r_bipush (v := 63) f333_30 rfl).trans ?_
  refine (r_iand (v := 45) f333_32 hk).trans ?_
  refine (r_tsw f333_33).trans ?_
  refine (asw_f (by decide)).trans ?_
  refine (asw_f (by decide)).trans ?_
  refine (asw_f (by decide)).trans ?_
  refine (asw_f (by decide)).trans ?_
  refine (asw_f (by decide)).trans ?_
  refine (asw_f (by decide)).trans ?_
  refine (asw_f (by decide)).trans ?_
  refine (asw_f (by decide)).trans ?_
  refine (asw_f (by decide)).trans ?_
  refine (asw_f (by decide)).trans ?_
  refine (asw_f (by decide)).trans ?_
  refine (asw_f (by decide)).trans ?_
  refine (asw_f (by decide)).trans ?_
  refine (asw_f (by decide)).trans ?_
  refine (asw_f (by decide)).trans ?_
  refine (asw_f (by decide)).trans ?_
  refine (asw_f (by decide)).trans ?_
  refine (asw_f (by decide)).trans ?_
  refine (asw_f (by decide)).trans ?_
  refine (asw_f (by decide)).trans ?_
  refine (asw_f (by decide)).trans ?_
  refine (asw_f (by decide)).trans ?_
  refine (asw_f (by decide)).trans ?_
  refine (asw_f (by decide)).trans ?_
  refine (asw_f (by decide)).trans ?_
  refine (asw_f (by decide)).trans ?_
  refine (asw_f (by decide)).trans ?_
  refine (asw_f (by decide)).trans ?_
  refine (asw_f (by decide)).trans ?_
  refine (asw_f (by decide)).trans ?_
  refine (asw_f (by decide)).trans ?_
  refine (asw_f (by decide)).trans ?_
  refine (asw_f (by decide)).trans ?_
  refine (asw_f (by decide)).trans ?_
  refine (asw_f (by decide)).trans ?_
  refine (asw_f (by decide)).trans ?_
  refine (asw_f (by decide)).trans ?_
  refine (asw_f (by decide)).trans ?_
  refine (asw_f (by decide)).trans ?_
  refine (asw_f (by decide)).trans ?_
  refine (asw_f (by decide)).trans ?_
  refine (asw_f (by decide)).trans ?_
  refine (asw_f (by decide)).trans ?_
  refine (asw_f (by decide)).trans ?_
  refine (asw_f (by decide)).trans ?_
  refine (asw_t (by decide)).trans ?_
  refine (r_aloadn f333_1807 rfl).trans ?_
  refine (r_aloadnX f333_1808 rfl).trans ?_
  refine (r_iloadn f333_1809 rfl).trans ?_
  refine (r_iconst (v := 1) f333_1810 rfl).trans ?_
  refine (r_iadd (v := 1) f333_1811 (by decide)).trans ?_
  refine (r_xld (v := (xs 1)) f333_1812 hX (by decide) rfl).trans ?_
  refine (r_aloadnX f333_1813 rfl).trans ?_
  refine (r_iloadn f333_1814 rfl).trans ?_
  refine (r_iconst (v := 2) f333_1815 rfl).trans ?_
  refine (r_iadd (v := 2) f333_1816 (by decide)).trans ?_
  refine (r_xld (v := (xs 2)) f333_1817 hX (by decide) rfl).trans ?_
  refine (r_aloadnX f333_1818 rfl).trans ?_
  refine (r_iloadn f333_1819 rfl).trans ?_
  refine (r_iconst (v := 3) f333_1820 rfl).trans ?_
  refine (r_iadd (v := 3) f333_1821 (by decide)).trans ?_
  refine (r_xld (v := (xs 3)) f333_1822 hX (by decide) rfl).trans ?_
  refine (r_virt (as := [.int (xs 1), .int (xs 2), .int (xs 3)]) (v := (some (.int v))) (h1 := h1) f333_1823 zh0 zg189 rfl rfl rfl rfl rfl rfl (ce (by omega) (e1 X (n + 1971) (d + 9)))).trans ?_
  refine (r_aloadn f333_1826 rfl).trans ?_
  refine (r_aloadnX f333_1827 rfl).trans ?_
  refine (r_iloadn f333_1828 rfl).trans ?_
  refine (r_iconst (v := 1) f333_1829 rfl).trans ?_
  refine (r_iadd (v := 1) f333_1830 (by decide)).trans ?_
  refine (r_xld (v := (xs 1)) f333_1831 hX (by decide) rfl).trans ?_
  refine (r_aloadnX f333_1832 rfl).trans ?_
  refine (r_iloadn f333_1833 rfl).trans ?_
  refine (r_iconst (v := 2) f333_1834 rfl).trans ?_
  refine (r_iadd (v := 2) f333_1835 (by decide)).trans ?_
  refine (r_xld (v := (xs 2)) f333_1836 hX (by decide) rfl).trans ?_
  refine (r_aloadnX f333_1837 rfl).trans ?_
  refine (r_iloadn f333_1838 rfl).trans ?_
  refine (r_iconst (v := 3) f333_1839 rfl).trans ?_
  refine (r_iadd (v := 3) f333_1840 (by decide)).trans ?_
  refine (r_xld (v := (xs 3)) f333_1841 hX (by decide) rfl).trans ?_
  refine (r_virt (as := [.int (xs 1), .int (xs 2), .int (xs 3)]) (v := (some (.int v))) (h1 := h2) f333_1842 g72 zg320 rfl rfl rfl rfl rfl rfl (ce (by omega) (e2 X (n + 1954) (d + 9)))).trans ?_
  refine (r_icmp_eq_t f333_1845 rfl).trans ?_
  refine (r_iinc (v := 6) (L' := [some (.retAddr 1), some (.ref 0), some (.ref 72), some (.int 6)]) f333_2076 rfl rfl rfl).trans ?_
  refine (r_goto f333_2079).trans ?_
  refine (r_iloadn f333_18 rfl).trans ?_
  refine (r_aloadnX f333_19 rfl).trans ?_
  refine (r_xlen (v := 6) f333_20 hX rfl).trans ?_
  refine (r_bipush (v := 6) f333_21 rfl).trans ?_
  refine (r_isub (v := 0) f333_23 (by decide)).trans ?_
  refine (r_icmp_gt_t f333_24 (by decide)).trans ?_
  refine (r_iconst (v := 1) f333_2082 rfl).trans ?_
  exact r_zreturn f333_2083 rfl (by decide)
set_option maxRecDepth 20000 in
theorem lc_46 {X : aX} {xs : Nat → Int32} (hX : X 1 = some (6, xs)) (hk : xs 0 &&& 63 = 46) : ∃ h2 : aH, (∀ n d : Nat, arun X (n + 1002000) (d + 30) zM333 18 [some (.retAddr 1), some (.ref 0), some (.ref 72), some (.int 0)] [] zH0 = some (some (.int 1), h2)) ∧ h2.1.length ≤ 600000 ∧ h2.2 ≤ 7302250 := by
  obtain ⟨v, h1, h2, e1, e2, g72, s1, s2⟩ := pc_46 (xs 1) (xs 2) ((((xs 3)).toInt64 <<< (Int32.toInt64 32 &&& 63)) ||| (((xs 4)).toInt64 &&& 4294967295))
  refine ⟨h2, fun n d => ?_, s1, s2⟩
  refine (r_iloadn f333_18 rfl).trans ?_
  refine (r_aloadnX f333_19 rfl).trans ?_
  refine (r_xlen (v := 6) f333_20 hX rfl).trans ?_
  refine (r_bipush (v := 6) f333_21 rfl).trans ?_
  refine (r_isub (v := 0) f333_23 (by decide)).trans ?_
  refine (r_icmp_gt_f f333_24 (by decide)).trans ?_
  refine (r_aloadnX f333_27 rfl).trans ?_
  refine (r_iloadn f333_28 rfl).trans ?_
  refine (r_xld (v := (xs 0)) f333_29 hX (by decide) rfl).trans ?_
  refine (r_bipush (v := 63) f333_30 rfl).trans ?_
  refine (r_iand (v := 46) f333_32 hk).trans ?_
  refine (r_tsw f333_33).trans ?_
  refine (asw_f (by decide)).trans ?_
  refine (asw_f (by decide)).trans ?_
  refine (asw_f (by decide)).trans ?_
  refine (asw_f (by decide)).trans ?_
  refine (asw_f (by decide)).trans ?_
  refine (asw_f (by decide)).trans ?_
  refine (asw_f (by decide)).trans ?_
  refine (asw_f (by decide)).trans ?_
  refine (asw_f (by decide)).trans ?_
  refine (asw_f (by decide)).trans ?_
  refine (asw_f (by decide)).trans ?_
  refine (asw_f (by decide)).trans ?_
  refine (asw_f (by decide)).trans ?_
  refine (asw_f (by decide)).trans ?_
  refine (asw_f (by decide)).trans ?_
  refine (asw_f (by decide)).trans ?_
  refine (asw_f (by decide)).trans ?_
  refine (asw_f (by decide)).trans ?_
  refine (asw_f (by decide)).trans ?_
  refine (asw_f (by decide)).trans ?_
  refine (asw_f (by decide)).trans ?_
  refine (asw_f (by decide)).trans ?_
  refine (asw_f (by decide)).trans ?_
  refine (asw_f (by decide)).trans ?_
  refine (asw_f (by decide)).trans ?_
  refine (asw_f (by decide)).trans ?_
  refine (asw_f (by decide)).trans ?_
  refine (asw_f (by decide)).trans ?_
  refine (asw_f (by decide)).trans ?_
  refine (asw_f (by decide)).trans ?_
  refine (asw_f (by decide)).trans ?_
  refine (asw_f (by decide)).trans ?_
  refine (asw_f (by decide)).trans ?_
  refine (asw_f (by decide)).trans ?_
  refine (asw_f (by decide)).trans ?_
  refine (asw_f (by decide)).trans ?_
  refine (asw_f (by decide)).trans ?_
  refine (asw_f (by decide)).trans ?_
  refine (asw_f (by decide)).trans ?_
  refine (asw_f (by decide)).trans ?_
  refine (asw_f (by decide)).trans ?_
  refine (asw_f (by decide)).trans ?_
  refine (asw_f (by decide)).trans ?_
  refine (asw_f (by decide)).trans ?_
  refine (asw_f (by decide)).trans ?_
  refine (asw_f (by decide)).trans ?_
  refine (asw_t (by decide)).trans ?_
  refine (r_aloadn f333_1850 rfl).trans ?_
  refine (r_aloadnX f333_1851 rfl).trans ?_
  refine (r_iloadn f333_1852 rfl).trans ?_
  refine (r_iconst (v := 1) f333_1853 rfl).trans ?_
  refine (r_iadd (v := 1) f333_1854 (by decide)).trans ?_
  refine (r_xld (v := (xs 1)) f333_1855 hX (by decide) rfl).trans ?_
  refine (r_aloadnX f333_1856 rfl).trans ?_
  refine (r_iloadn f333_1857 rfl).trans ?_
  refine (r_iconst (v := 2) f333_1858 rfl).trans ?_
  refine (r_iadd (v := 2) f333_1859 (by decide)).trans ?_
  refine (r_xld (v := (xs 2)) f333_1860 hX (by decide) rfl).trans ?_
  refine (r_aloadnX f333_1861 rfl).trans ?_
  refine (r_iloadn f333_1862 rfl).trans ?_
  refine (r_iconst (v := 3) f333_1863 rfl).trans ?_
  refine (r_iadd (v := 3) f333_1864 (by decide)).trans ?_
  refine (r_xld (v := (xs 3)) f333_1865 hX (by decide) rfl).trans ?_
  refine (r_i2l (v := ((xs 3)).toInt64) f333_1866 rfl).trans ?_
  refine (r_bipush (v := 32) f333_1867 rfl).trans ?_
  refine (r_lshl (v := (((xs 3)).toInt64 <<< (Int32.toInt64 32 &&& 63))) f333_1869 rfl).trans ?_
  refine (r_aloadnX f333_1870 rfl).trans ?_
  refine (r_iloadn f333_1871 rfl).trans ?_
  refine (r_iconst (v := 4) f333_1872 rfl).trans ?_
  refine (r_iadd (v := 4) f333_1873 (by decide)).trans ?_
  refine (r_xld (v := (xs 4)) f333_1874 hX (by decide) rfl).trans ?_
  refine (r_i2l (v := ((xs 4)).toInt64) f333_1875 rfl).trans ?_
  refine (r_ldc2 (v := 4294967295) f333_1876 (by decide)).trans ?_
  refine (r_land (v := (((xs 4)).toInt64 &&& 4294967295)) f333_1879 rfl).trans ?_
  refine (r_lor (v := ((((xs 3)).toInt64 <<< (Int32.toInt64 32 &&& 63)) ||| (((xs 4)).toInt64 &&& 4294967295))) f333_1880 rfl).trans ?_
  refine (r_virt (as := [.int (xs 1), .int (xs 2), .long ((((xs 3)).toInt64 <<< (Int32.toInt64 32 &&& 63)) ||| (((xs 4)).toInt64 &&& 4294967295))]) (v := (some (.int v))) (h1 := h1) f333_1881 zh0 zg190 rfl rfl rfl rfl rfl rfl (ce (by omega) (e1 X (n + 1959) (d + 9)))).trans ?_
  refine (r_aloadn f333_1884 rfl).trans ?_
  refine (r_aloadnX f333_1885 rfl).trans ?_
  refine (r_iloadn f333_1886 rfl).trans ?_
  refine (r_iconst (v := 1) f333_1887 rfl).trans ?_
  refine (r_iadd (v := 1) f333_1888 (by decide)).trans ?_
  refine (r_xld (v := (xs 1)) f333_1889 hX (by decide) rfl).trans ?_
  refine (r_aloadnX f333_1890 rfl).trans ?_
  refine (r_iloadn f333_1891 rfl).trans ?_
  refine (r_iconst (v := 2) f333_1892 rfl).trans ?_
  refine (r_iadd (v := 2) f333_1893 (by decide)).trans ?_
  refine (r_xld (v := (xs 2)) f333_1894 hX (by decide) rfl).trans ?_
  refine (r_aloadnX f333_1895 rfl).trans ?_
  refine (r_iloadn f333_1896 rfl).trans ?_
  refine (r_iconst (v := 3) f333_1897 rfl).trans ?_
  refine (r_iadd (v := 3) f333_1898 (by decide)).trans ?_
  refine (r_xld (v := (xs 3)) f333_1899 hX (by decide) rfl).trans ?_
  refine (r_i2l (v := ((xs 3)).toInt64) f333_1900 rfl).trans ?_
  refine (r_bipush (v := 32) f333_1901 rfl).trans ?_
  refine (r_lshl (v := (((xs 3)).toInt64 <<< (Int32.toInt64 32 &&& 63))) f333_1903 rfl).trans ?_
  refine (r_aloadnX f333_1904 rfl).trans ?_
  refine (r_iloadn f333_1905 rfl).trans ?_
  refine (r_iconst (v := 4) f333_1906 rfl).trans ?_
  refine (r_iadd (v := 4) f333_1907 (by decide)).trans ?_
  refine (r_xld (v := (xs 4)) f333_1908 hX (by decide) rfl).trans ?_
  refine (r_i2l (v := ((xs 4)).toInt64) f333_1909 rfl).trans ?_
  refine (r_ldc2 (v := 4294967295) f333_1910 (by decide)).trans ?_
  refine (r_land (v := (((xs 4)).toInt64 &&& 4294967295)) f333_1913 rfl).trans ?_
  refine (r_lor (v := ((((xs 3)).toInt64 <<< (Int32.toInt64 32 &&& 63)) ||| (((xs 4)).toInt64 &&& 4294967295))) f333_1914 rfl).trans ?_
  refine (r_virt (as := [.int (xs 1), .int (xs 2), .long ((((xs 3)).toInt64 <<< (Int32.toInt64 32 &&& 63)) ||| (((xs 4)).toInt64 &&& 4294967295))]) (v := (some (.int v))) (h1 := h2) f333_1915 g72 zg322 rfl rfl rfl rfl rfl rfl (ce (by omega) (e2 X (n + 1930) (d + 9)))).trans ?_
  refine (r_icmp_eq_t f333_1918 rfl).trans ?_
  refine (r_iinc (v := 6) (L' := [some (.retAddr 1), some (.ref 0), some (.ref 72), some (.int 6)]) f333_2076 rfl rfl rfl).trans ?_
  refine (r_goto f333_2079).trans ?_
  refine (r_iloadn f333_18 rfl).trans ?_
  refine (r_aloadnX f333_19 rfl).trans ?_
  refine (r_xlen (v := 6) f333_20 hX rfl).trans ?_
  refine (r_bipush (v := 6) f333_21 rfl).trans ?_
  refine (r_isub (v := 0) f333_23 (by decide)).trans ?_
  refine (r_icmp_gt_t f333_24 (by decide)).trans ?_
  refine (r_iconst (v := 1) f333_2082 rfl).trans ?_
  exact r_zreturn f333_2083 rfl (by decide)
set_option maxRecDepth 20000 in
theorem lc_47 {X : aX} {xs : Nat → Int32} (hX : X 1 = some (6, xs)) (hk : xs 0 &&& 63 = 47) : ∃ h2 : aH, (∀ n d : Nat, arun X (n + 1002000) (d + 30) zM333 18 [some (.retAddr 1), some (.ref 0), some (.ref 72), some (.int 0)] [] zH0 = some (some (.int 1), h2)) ∧ h2.1.length ≤ 600000 ∧ h2.2 ≤ 7302250 := by
  obtain ⟨v, h1, h2, e1, e2, g72, s1, s2⟩ := pc_47 (xs 1) (xs 2)
  refine ⟨h2, fun n d => ?_, s1, s2⟩
  refine (r_iloadn f333_18 rfl).trans ?_
  refine (r_aloadnX f333_19 rfl).trans ?_
  refine (r_xlen (v := 6) f333_20 hX rfl).trans ?_
  refine (r_bipush (v := 6) f333_21 rfl).trans ?_
  refine (r_isub (v := 0) f333_23 (by decide)).trans ?_
  refine (r_icmp_gt_f f333_24 (by decide)).trans ?_
  refine (r_aloadnX f333_27 rfl).trans ?_
  refine (r_iloadn f333_28 rfl).trans ?_
  refine (r_xld (v := (xs 0)) f333_29 hX (by decide) rfl).trans ?_
  refine (r_bipush (v := 63) f333_30 rfl).trans ?_
  refine (r_iand (v := 47) f333_32 hk).trans ?_
  refine (r_tsw f333_33).trans ?_
  refine (asw_f (by decide)).trans ?_
  refine (asw_f (by decide)).trans ?_
  refine (asw_f (by decide)).trans ?_
  refine (asw_f (by decide)).trans ?_
  refine (asw_f (by decide)).trans ?_
  refine (asw_f (by decide)).trans ?_
  refine (asw_f (by decide)).trans ?_
  refine (asw_f (by decide)).trans ?_
  refine (asw_f (by decide)).trans ?_
  refine (asw_f (by decide)).trans ?_
  refine (asw_f (by decide)).trans ?_
  refine (asw_f (by decide)).trans ?_
  refine (asw_f (by decide)).trans ?_
  refine (asw_f (by decide)).trans ?_
  refine (asw_f (by decide)).trans ?_
  refine (asw_f (by decide)).trans ?_
  refine (asw_f (by decide)).trans ?_
  refine (asw_f (by decide)).trans ?_
  refine (asw_f (by decide)).trans ?_
  refine (asw_f (by decide)).trans ?_
  refine (asw_f (by decide)).trans ?_
  refine (asw_f (by decide)).trans ?_
  refine (asw_f (by decide)).trans ?_
  refine (asw_f (by decide)).trans ?_
  refine (asw_f (by decide)).trans ?_
  refine (asw_f (by decide)).trans ?_
  refine (asw_f (by decide)).trans ?_
  refine (asw_f (by decide)).trans ?_
  refine (asw_f (by decide)).trans ?_
  refine (asw_f (by decide)).trans ?_
  refine (asw_f (by decide)).trans ?_
  refine (asw_f (by decide)).trans ?_
  refine (asw_f (by decide)).trans ?_
  refine (asw_f (by decide)).trans ?_
  refine (asw_f (by decide)).trans ?_
  refine (asw_f (by decide)).trans ?_
  refine (asw_f (by decide)).trans ?_
  refine (asw_f (by decide)).trans ?_
  refine (asw_f (by decide)).trans ?_
  refine (asw_f (by decide)).trans ?_
  refine (asw_f (by decide)).trans ?_
  refine (asw_f (by decide)).trans ?_
  refine (asw_f (by decide)).trans ?_
  refine (asw_f (by decide)).trans ?_
  refine (asw_f (by decide)).trans ?_
  refine (asw_f (by decide)).trans ?_
  refine (asw_f (by decide)).trans ?_
  refine (asw_t (by decide)).trans ?_
  refine (r_aloadn f333_1923 rfl).trans ?_
  refine (r_aloadnX f333_1924 rfl).trans ?_
  refine (r_iloadn f333_1925 rfl).trans ?_
  refine (r_iconst (v := 1) f333_1926 rfl).trans ?_
  refine (r_iadd (v := 1) f333_1927 (by decide)).trans ?_
  refine (r_xld (v := (xs 1)) f333_1928 hX (by decide) rfl).trans ?_
  refine (r_aloadnX f333_1929 rfl).trans ?_
  refine (r_iloadn f333_1930 rfl).trans ?_
  refine (r_iconst (v := 2) f333_1931 rfl).trans ?_
  refine (r_iadd (v := 2) f333_1932 (by decide)).trans ?_
  refine (r_xld (v := (xs 2)) f333_1933 hX (by decide) rfl).trans ?_
  refine (r_virt (as := [.int (xs 1), .int (xs 2)]) (v := (some (.long v))) (h1 := h1) f333_1934 zh0 zg191 rfl rfl rfl rfl rfl rfl (ce (by omega) (e1 X (n + 1976) (d + 9)))).trans ?_
  refine (r_aloadn f333_1937 rfl).trans ?_
  refine (r_aloadnX f333_1938 rfl).trans ?_
  refine (r_iloadn f333_1939 rfl).trans ?_
  refine (r_iconst (v := 1) f333_1940 rfl).trans ?_
  refine (r_iadd (v := 1) f333_1941 (by decide)).trans ?_
  refine (r_xld (v := (xs 1)) f333_1942 hX (by decide) rfl).trans ?_
  refine (r_aloadnX f333_1943 rfl).trans ?_
  refine (r_iloadn f333_1944 rfl).trans ?_
  refine (r_iconst (v := 2) f333_1945 rfl).trans ?_
  refine (r_iadd (v := 2) f333_1946 (by decide)).trans ?_
  refine (r_xld (v := (xs 2)) f333_1947 hX (by decide) rfl).trans ?_
  refine (r_virt (as := [.int (xs 1), .int (xs 2)]) (v := (some (.long v))) (h1 := h2) f333_1948 g72 zg323 rfl rfl rfl rfl rfl rfl (ce (by omega) (e2 X (n + 1964) (d + 9)))).trans ?_
  refine (r_lcmp (v := 0) f333_1951 (lg_self _)).trans ?_
  refine (r_if_eq_t f333_1952 (by decide)).trans ?_
  refine (r_iinc (v := 6) (L' := [some (.retAddr 1), some (.ref 0), some (.ref 72), some (.int 6)]) f333_2076 rfl rfl rfl).trans ?_
  refine (r_goto f333_2079).trans ?_
  refine (r_iloadn f333_18 rfl).trans ?_
  refine (r_aloadnX f333_19 rfl).trans ?_
  refine (r_xlen (v := 6) f333_20 hX rfl).trans ?_
  refine (r_bipush (v := 6) f333_21 rfl).trans ?_
  refine (r_isub (v := 0) f333_23 (by decide)).trans ?_
  refine (r_icmp_gt_t f333_24 (by decide)).trans ?_
  refine (r_iconst (v := 1) f333_2082 rfl).trans ?_
  exact r_zreturn f333_2083 rfl (by decide)
set_option maxRecDepth 20000 in
theorem lc_48 {X : aX} {xs : Nat → Int32} (hX : X 1 = some (6, xs)) (hk : xs 0 &&& 63 = 48) : ∃ h2 : aH, (∀ n d : Nat, arun X (n + 1002000) (d + 30) zM333 18 [some (.retAddr 1), some (.ref 0), some (.ref 72), some (.int 0)] [] zH0 = some (some (.int 1), h2)) ∧ h2.1.length ≤ 600000 ∧ h2.2 ≤ 7302250 := by
  obtain ⟨v, h1, h2, e1, e2, g72, s1, s2⟩ := pc_48 (xs 1) (xs 2) (xs 3) (xs 4) (xs 5)
  refine ⟨h2, fun n d => ?_, s1, s2⟩
  refine (r_iloadn f333_18 rfl).trans ?_
  refine (r_aloadnX f333_19 rfl).trans ?_
  refine (r_xlen (v := 6) f333_20 hX rfl).trans ?_
  refine (r_bipush (v := 6) f333_21 rfl).trans ?_
  refine (r_isub (v := 0) f333_23 (by decide)).trans ?_
  refine (r_icmp_gt_f f333_24 (by decide)).trans ?_
  refine (r_aloadnX f333_27 rfl).trans ?_
  refine (r_iloadn f333_28 rfl).trans ?_
  refine (r_xld (v := (xs 0)) f333_29 hX (by decide) rfl).trans ?_
  refine (r_bipush (v := 63) f333_30 rfl).trans ?_
  refine (r_iand (v := 48) f333_32 hk).trans ?_
  refine (r_tsw f333_33).trans ?_
  refine (asw_f (by decide)).trans ?_
  refine (asw_f (by decide)).trans ?_
  refine (asw_f (by decide)).trans ?_
  refine (asw_f (by decide)).trans ?_
  refine (asw_f (by decide)).trans ?_
  refine (asw_f (by decide)).trans ?_
  refine (asw_f (by decide)).trans ?_
  refine (asw_f (by decide)).trans ?_
  refine (asw_f (by decide)).trans ?_
  refine (asw_f (by decide)).trans ?_
  refine (asw_f (by decide)).trans ?_
  refine (asw_f (by decide)).trans ?_
  refine (asw_f (by decide)).trans ?_
  refine (asw_f (by decide)).trans ?_
  refine (asw_f (by decide)).trans ?_
  refine (asw_f (by decide)).trans ?_
  refine (asw_f (by decide)).trans ?_
  refine (asw_f (by decide)).trans ?_
  refine (asw_f (by decide)).trans ?_
  refine (asw_f (by decide)).trans ?_
  refine (asw_f (by decide)).trans ?_
  refine (asw_f (by decide)).trans ?_
  refine (asw_f (by decide)).trans ?_
  refine (asw_f (by decide)).trans ?_
  refine (asw_f (by decide)).trans ?_
  refine (asw_f (by decide)).trans ?_
  refine (asw_f (by decide)).trans ?_
  refine (asw_f (by decide)).trans ?_
  refine (asw_f (by decide)).trans ?_
  refine (asw_f (by decide)).trans ?_
  refine (asw_f (by decide)).trans ?_
  refine (asw_f (by decide)).trans ?_
  refine (asw_f (by decide)).trans ?_
  refine (asw_f (by decide)).trans ?_
  refine (asw_f (by decide)).trans ?_
  refine (asw_f (by decide)).trans ?_
  refine (asw_f (by decide)).trans ?_
  refine (asw_f (by decide)).trans ?_
  refine (asw_f (by decide)).trans ?_
  refine (asw_f (by decide)).trans ?_
  refine (asw_f (by decide)).trans ?_
  refine (asw_f (by decide)).trans ?_
  refine (asw_f (by decide)).trans ?_
  refine (asw_f (by decide)).trans ?_
  refine (asw_f (by decide)).trans ?_
  refine (asw_f (by decide)).trans ?_
  refine (asw_f (by decide)).trans ?_
  refine (asw_f (by decide)).trans ?_
  refine (asw_t (by decide)).trans ?_
  refine (r_aloadn f333_1957 rfl).trans ?_
  refine (r_aloadnX f333_1958 rfl).trans ?_
  refine (r_iloadn f333_1959 rfl).trans ?_
  refine (r_iconst (v := 1) f333_1960 rfl).trans ?_
  refine (r_iadd (v := 1) f333_1961 (by decide)).trans ?_
  refine (r_xld (v := (xs 1)) f333_1962 hX (by decide) rfl).trans ?_
  refine (r_aloadnX f333_1963 rfl).trans ?_
  refine (r_iloadn f333_1964 rfl).trans ?_
  refine (r_iconst (v := 2) f333_1965 rfl).trans ?_
  refine (r_iadd (v := 2) f333_1966 (by decide)).trans ?_
  refine (r_xld (v := (xs 2)) f333_1967 hX (by decide) rfl).trans ?_
  refine (r_aloadnX f333_1968 rfl).trans ?_
  refine (r_iloadn f333_1969 rfl).trans ?_
  refine (r_iconst (v := 3) f333_1970 rfl).trans ?_
  refine (r_iadd (v := 3) f333_1971 (by decide)).trans ?_
  refine (r_xld (v := (xs 3)) f333_1972 hX (by decide) rfl).trans ?_
  refine (r_aloadnX f333_1973 rfl).trans ?_
  refine (r_iloadn f333_1974 rfl).trans ?_
  refine (r_iconst (v := 4) f333_1975 rfl).trans ?_
  refine (r_iadd (v := 4) f333_1976 (by decide)).trans ?_
  refine (r_xld (v := (xs 4)) f333_1977 hX (by decide) rfl).trans ?_
  refine (r_aloadnX f333_1978 rfl).trans ?_
  refine (r_iloadn f333_1979 rfl).trans ?_
  refine (r_iconst (v := 5) f333_1980 rfl).trans ?_
  refine (r_iadd (v := 5) f333_1981 (by decide)).trans ?_
  refine (r_xld (v := (xs 5)) f333_1982 hX (by decide) rfl).trans ?_
  refine (r_virt (as := [.int (xs 1), .int (xs 2), .int (xs 3), .int (xs 4), .int (xs 5)]) (v := (some (.int v))) (h1 := h1) f333_1983 zh0 zg192 rfl rfl rfl rfl rfl rfl (ce (by omega) (e1 X (n + 1961) (d + 9)))).trans ?_
  refine (r_aloadn f333_1986 rfl).trans ?_
  refine (r_aloadnX f333_1987 rfl).trans ?_
  refine (r_iloadn f333_1988 rfl).trans ?_
  refine (r_iconst (v := 1) f333_1989 rfl).trans ?_
  refine (r_iadd (v := 1) f333_1990 (by decide)).trans ?_
  refine (r_xld (v := (xs 1)) f333_1991 hX (by decide) rfl).trans ?_
  refine (r_aloadnX f333_1992 rfl).trans ?_
  refine (r_iloadn f333_1993 rfl).trans ?_
  refine (r_iconst (v := 2) f333_1994 rfl).trans ?_
  refine (r_iadd (v := 2) f333_1995 (by decide)).trans ?_
  refine (r_xld (v := (xs 2)) f333_1996 hX (by decide) rfl).trans ?_
  refine (r_aloadnX f333_1997 rfl).trans ?_
  refine (r_iloadn f333_1998 rfl).trans ?_
  refine (r_iconst (v := 3) f333_1999 rfl).trans ?_
  refine (r_iadd (v := 3) f333_2000 (by decide)).trans ?_
  refine (r_xld (v := (xs 3)) f333_2001 hX (by decide) rfl).trans ?_
  refine (r_aloadnX f333_2002 rfl).trans ?_
  refine (r_iloadn f333_2003 rfl).trans ?_
  refine (r_iconst (v := 4) f333_2004 rfl).trans ?_
  refine (r_iadd (v := 4) f333_2005 (by decide)).trans ?_
  refine (r_xld (v := (xs 4)) f333_2006 hX (by decide) rfl).trans ?_
  refine (r_aloadnX f333_2007 rfl).trans ?_
  refine (r_iloadn f333_2008 rfl).trans ?_
  refine (r_iconst (v := 5) f333_2009 rfl).trans ?_
  refine (r_iadd (v := 5) f333_2010 (by decide)).trans ?_
  refine (r_xld (v := (xs 5)) f333_2011 hX (by decide) rfl).trans ?_
  refine (r_virt (as := [.int (xs 1), .int (xs 2), .int (xs 3), .int (xs 4), .int (xs 5)]) (v := (some (.int v))) (h1 := h2) f333_2012 g72 zg324 rfl rfl rfl rfl rfl rfl (ce (by omega) (e2 X (n + 1934) (d + 9)))).trans ?_
  refine (r_icmp_eq_t f333_2015 rfl).trans ?_
  refine (r_iinc (v := 6) (L' := [some (.retAddr 1), some (.ref 0), some (.ref 72), some (.int 6)]) f333_2076 rfl rfl rfl).trans ?_
  refine (r_goto f333_2079).trans ?_
  refine (r_iloadn f333_18 rfl).trans ?_
  refine (r_aloadnX f333_19 rfl).trans ?_
  refine (r_xlen (v := 6) f333_20 hX rfl).trans ?_
  refine (r_bipush (v := 6) f333_21 rfl).trans ?_
  refine (r_isub (v := 0) f333_23 (by decide)).trans ?_
  refine (r_icmp_gt_t f333_24 (by decide)).trans ?_
  refine (r_iconst (v := 1) f333_2082 rfl).trans ?_
  exact r_zreturn f333_2083 rfl (by decide)
set_option maxRecDepth 20000 in
theorem lc_49 {X : aX} {xs : Nat → Int32} (hX : X 1 = some (6, xs)) (hk : xs 0 &&& 63 = 49) : ∃ h2 : aH, (∀ n d : Nat, arun X (n + 1002000) (d + 30) zM333 18 [some (.retAddr 1), some (.ref 0), some (.ref 72), some (.int 0)] [] zH0 = some (some (.int 1), h2)) ∧ h2.1.length ≤ 600000 ∧ h2.2 ≤ 7302250 := by
  obtain ⟨v, h1, h2, e1, e2, g72, s1, s2⟩ := pc_49 (xs 1) (xs 2)
  refine ⟨h2, fun n d => ?_, s1, s2⟩
  refine (r_iloadn f333_18 rfl).trans ?_
  refine (r_aloadnX f333_19 rfl).trans ?_
  refine (r_xlen (v := 6) f333_20 hX rfl).trans ?_
  refine (r_bipush (v := 6) f333_21 rfl).trans ?_
  refine (r_isub (v := 0) f333_23 (by decide)).trans ?_
  refine (r_icmp_gt_f f333_24 (by decide)).trans ?_
  refine (r_aloadnX f333_27 rfl).trans ?_
  refine (r_iloadn f333_28 rfl).trans ?_
  refine (r_xld (v := (xs 0)) f333_29 hX (by decide) rfl).trans ?_
  refine (r_bipush (v := 63) f333_30 rfl).trans ?_
  refine (r_iand (v := 49) f333_32 hk).trans ?_
  refine (r_tsw f333_33).trans ?_
  refine (asw_f (by decide)).trans ?_
  refine (asw_f (by decide)).trans ?_
  refine (asw_f (by decide)).trans ?_
  refine (asw_f (by decide)).trans ?_
  refine (asw_f (by decide)).trans ?_
  refine (asw_f (by decide)).trans ?_
  refine (asw_f (by decide)).trans ?_
  refine (asw_f (by decide)).trans ?_
  refine (asw_f (by decide)).trans ?_
  refine (asw_f (by decide)).trans ?_
  refine (asw_f (by decide)).trans ?_
  refine (asw_f (by decide)).trans ?_
  refine (asw_f (by decide)).trans ?_
  refine (asw_f (by decide)).trans ?_
  refine (asw_f (by decide)).trans ?_
  refine (asw_f (by decide)).trans ?_
  refine (asw_f (by decide)).trans ?_
  refine (asw_f (by decide)).trans ?_
  refine (asw_f (by decide)).trans ?_
  refine (asw_f (by decide)).trans ?_
  refine (asw_f (by decide)).trans ?_
  refine (asw_f (by decide)).trans ?_
  refine (asw_f (by decide)).trans ?_
  refine (asw_f (by decide)).trans ?_
  refine (asw_f (by decide)).trans ?_
  refine (asw_f (by decide)).trans ?_
  refine (asw_f (by decide)).trans ?_
  refine (asw_f (by decide)).trans ?_
  refine (asw_f (by decide)).trans ?_
  refine (asw_f (by decide)).trans ?_
  refine (asw_f (by decide)).trans ?_
  refine (asw_f (by decide)).trans ?_
  refine (asw_f (by decide)).trans ?_
  refine (asw_f (by decide)).trans ?_
  refine (asw_f (by decide)).trans ?_
  refine (asw_f (by decide)).trans ?_
  refine (asw_f (by decide)).trans ?_
  refine (asw_f (by decide)).trans ?_
  refine (asw_f (by decide)).trans ?_
  refine (asw_f (by decide)).trans ?_
  refine (asw_f (by decide)).trans ?_
  refine (asw_f (by decide)).trans ?_
  refine (asw_f (by decide)).trans ?_
  refine (asw_f (by decide)).trans ?_
  refine (asw_f (by decide)).trans ?_
  refine (asw_f (by decide)).trans ?_
  refine (asw_f (by decide)).trans ?_
  refine (asw_f (by decide)).trans ?_
  refine (asw_f (by decide)).trans ?_
  refine (asw_t (by decide)).trans ?_
  refine (r_aloadn f333_2020 rfl).trans ?_
  refine (r_aloadnX f333_2021 rfl).trans ?_
  refine (r_iloadn f333_2022 rfl).trans ?_
  refine (r_iconst (v := 1) f333_2023 rfl).trans ?_
  refine (r_iadd (v := 1) f333_2024 (by decide)).trans ?_
  refine (r_xld (v := (xs 1)) f333_2025 hX (by decide) rfl).trans ?_
  refine (r_aloadnX f333_2026 rfl).trans ?_
  refine (r_iloadn f333_2027 rfl).trans ?_
  refine (r_iconst (v := 2) f333_2028 rfl).trans ?_
  refine (r_iadd (v := 2) f333_2029 (by decide)).trans ?_
  refine (r_xld (v := (xs 2)) f333_2030 hX (by decide) rfl).trans ?_
  refine (r_virt (as := [.int (xs 1), .int (xs 2)]) (v := (some (.int v))) (h1 := h1) f333_2031 zh0 zg193 rfl rfl rfl rfl rfl rfl (ce (by omega) (e1 X (n + 1976) (d + 9)))).trans ?_
  refine (r_aloadn f333_2034 rfl).trans ?_
  refine (r_aloadnX f333_2035 rfl).trans ?_
  refine (r_iloadn f333_2036 rfl).trans ?_
  refine (r_iconst (v := 1) f333_2037 rfl).trans ?_
  refine (r_iadd (v := 1) f333_2038 (by decide)).trans ?_
  refine (r_xld (v := (xs 1)) f333_2039 hX (by decide) rfl).trans ?_
  refine (r_aloadnX f333_2040 rfl).trans ?_
  refine (r_iloadn f333_2041 rfl).trans ?_
  refine (r_iconst (v := 2) f333_2042 rfl).trans ?_
  refine (r_iadd (v := 2) f333_2043 (by decide)).trans ?_
  refine (r_xld (v := (xs 2)) f333_2044 hX (by decide) rfl).trans ?_
  refine (r_virt (as := [.int (xs 1), .int (xs 2)]) (v := (some (.int v))) (h1 := h2) f333_2045 g72 zg325 rfl rfl rfl rfl rfl rfl (ce (by omega) (e2 X (n + 1964) (d + 9)))).trans ?_
  refine (r_icmp_eq_t f333_2048 rfl).trans ?_
  refine (r_iinc (v := 6) (L' := [some (.retAddr 1), some (.ref 0), some (.ref 72), some (.int 6)]) f333_2076 rfl rfl rfl).trans ?_
  refine (r_goto f333_2079).trans ?_
  refine (r_iloadn f333_18 rfl).trans ?_
  refine (r_aloadnX f333_19 rfl).trans ?_
  refine (r_xlen (v := 6) f333_20 hX rfl).trans ?_
  refine (r_bipush (v := 6) f333_21 rfl).trans ?_
  refine (r_isub (v := 0) f333_23 (by decide)).trans ?_
  refine (r_icmp_gt_t f333_24 (by decide)).trans ?_
  refine (r_iconst (v := 1) f333_2082 rfl).trans ?_
  exact r_zreturn f333_2083 rfl (by decide)
set_option maxRecDepth 20000 in
theorem lc_50 {X : aX} {xs : Nat → Int32} (hX : X 1 = some (6, xs)) (hk : xs 0 &&& 63 = 50) : ∃ h2 : aH, (∀ n d : Nat, arun X (n + 1002000) (d + 30) zM333 18 [some (.retAddr 1), some (.ref 0), some (.ref 72), some (.int 0)] [] zH0 = some (some (.int 1), h2)) ∧ h2.1.length ≤ 600000 ∧ h2.2 ≤ 7302250 := by
  obtain ⟨v, h1, h2, e1, e2, g72, s1, s2⟩ := pc_50 (xs 1)
  refine ⟨h2, fun n d => ?_, s1, s2⟩
  refine (r_iloadn f333_18 rfl).trans ?_
  refine (r_aloadnX f333_19 rfl).trans ?_
  refine (r_xlen (v := 6) f333_20 hX rfl).trans ?_
  refine (r_bipush (v := 6) f333_21 rfl).trans ?_
  refine (r_isub (v := 0) f333_23 (by decide)).trans ?_
  refine (r_icmp_gt_f f333_24 (by decide)).trans ?_
  refine (r_aloadnX f333_27 rfl).trans ?_
  refine (r_iloadn f333_28 rfl).trans ?_
  refine (r_xld (v := (xs 0)) f333_29 hX (by decide) rfl).trans ?_
  refine (r_bipush (v := 63) f333_30 rfl).trans ?_
  refine (r_iand (v := 50) f333_32 hk).trans ?_
  refine (r_tsw f333_33).trans ?_
  refine (asw_f (by decide)).trans ?_
  refine (asw_f (by decide)).trans ?_
  refine (asw_f (by decide)).trans ?_
  refine (asw_f (by decide)).trans ?_
  refine (asw_f (by decide)).trans ?_
  refine (asw_f (by decide)).trans ?_
  refine (asw_f (by decide)).trans ?_
  refine (asw_f (by decide)).trans ?_
  refine (asw_f (by decide)).trans ?_
  refine (asw_f (by decide)).trans ?_
  refine (asw_f (by decide)).trans ?_
  refine (asw_f (by decide)).trans ?_
  refine (asw_f (by decide)).trans ?_
  refine (asw_f (by decide)).trans ?_
  refine (asw_f (by decide)).trans ?_
  refine (asw_f (by decide)).trans ?_
  refine (asw_f (by decide)).trans ?_
  refine (asw_f (by decide)).trans ?_
  refine (asw_f (by decide)).trans ?_
  refine (asw_f (by decide)).trans ?_
  refine (asw_f (by decide)).trans ?_
  refine (asw_f (by decide)).trans ?_
  refine (asw_f (by decide)).trans ?_
  refine (asw_f (by decide)).trans ?_
  refine (asw_f (by decide)).trans ?_
  refine (asw_f (by decide)).trans ?_
  refine (asw_f (by decide)).trans ?_
  refine (asw_f (by decide)).trans ?_
  refine (asw_f (by decide)).trans ?_
  refine (asw_f (by decide)).trans ?_
  refine (asw_f (by decide)).trans ?_
  refine (asw_f (by decide)).trans ?_
  refine (asw_f (by decide)).trans ?_
  refine (asw_f (by decide)).trans ?_
  refine (asw_f (by decide)).trans ?_
  refine (asw_f (by decide)).trans ?_
  refine (asw_f (by decide)).trans ?_
  refine (asw_f (by decide)).trans ?_
  refine (asw_f (by decide)).trans ?_
  refine (asw_f (by decide)).trans ?_
  refine (asw_f (by decide)).trans ?_
  refine (asw_f (by decide)).trans ?_
  refine (asw_f (by decide)).trans ?_
  refine (asw_f (by decide)).trans ?_
  refine (asw_f (by decide)).trans ?_
  refine (asw_f (by decide)).trans ?_
  refine (asw_f (by decide)).trans ?_
  refine (asw_f (by decide)).trans ?_
  refine (asw_f (by decide)).trans ?_
  refine (asw_f (by decide)).trans ?_
  refine (asw_t (by decide)).trans ?_
  refine (r_aloadn f333_2053 rfl).trans ?_
  refine (r_aloadnX f333_2054 rfl).trans ?_
  refine (r_iloadn f333_2055 rfl).trans ?_
  refine (r_iconst (v := 1) f333_2056 rfl).trans ?_
  refine (r_iadd (v := 1) f333_2057 (by decide)).trans ?_
  refine (r_xld (v := (xs 1)) f333_2058 hX (by decide) rfl).trans ?_
  refine (r_virt (as := [.int (xs 1)]) (v := (some (.int v))) (h1 := h1) f333_2059 zh0 zg194 rfl rfl rfl rfl rfl rfl (ce (by omega) (e1 X (n + 1981) (d + 9)))).trans ?_
  refine (r_aloadn f333_2062 rfl).trans ?_
  refine (r_aloadnX f333_2063 rfl).trans ?_
  refine (r_iloadn f333_2064 rfl).trans ?_
  refine (r_iconst (v := 1) f333_2065 rfl).trans ?_
  refine (r_iadd (v := 1) f333_2066 (by decide)).trans ?_
  refine (r_xld (v := (xs 1)) f333_2067 hX (by decide) rfl).trans ?_
  refine (r_virt (as := [.int (xs 1)]) (v := (some (.int v))) (h1 := h2) f333_2068 g72 zg327 rfl rfl rfl rfl rfl rfl (ce (by omega) (e2 X (n + 1974) (d + 9)))).trans ?_
  refine (r_icmp_eq_t f333_2071 rfl).trans ?_
  refine (r_iinc (v := 6) (L' := [some (.retAddr 1), some (.ref 0), some (.ref 72), some (.int 6)]) f333_2076 rfl rfl rfl).trans ?_
  refine (r_goto f333_2079).trans ?_
  refine (r_iloadn f333_18 rfl).trans ?_
  refine (r_aloadnX f333_19 rfl).trans ?_
  refine (r_xlen (v := 6) f333_20 hX rfl).trans ?_
  refine (r_bipush (v := 6) f333_21 rfl).trans ?_
  refine (r_isub (v := 0) f333_23 (by decide)).trans ?_
  refine (r_icmp_gt_t f333_24 (by decide)).trans ?_
  refine (r_iconst (v := 1) f333_2082 rfl).trans ?_
  exact r_zreturn f333_2083 rfl (by decide)
set_option maxRecDepth 20000 in
theorem lc_51 {X : aX} {xs : Nat → Int32} (hX : X 1 = some (6, xs)) (hk : xs 0 &&& 63 = 51) : ∃ h2 : aH, (∀ n d : Nat, arun X (n + 1002000) (d + 30) zM333 18 [some (.retAddr 1), some (.ref 0), some (.ref 72), some (.int 0)] [] zH0 = some (some (.int 1), h2)) ∧ h2.1.length ≤ 600000 ∧ h2.2 ≤ 7302250 := by
  refine ⟨zH0, fun n d => ?_, by rw [zH0_len]; decide, by decide⟩
  refine (r_iloadn f333_18 rfl).trans ?_
  refine (r_aloadnX f333_19 rfl).trans ?_
  refine (r_xlen (v := 6) f333_20 hX rfl).trans ?_
  refine (r_bipush (v := 6) f333_21 rfl).trans ?_
  refine (r_isub (v := 0) f333_23 (by decide)).trans ?_
  refine (r_icmp_gt_f f333_24 (by decide)).trans ?_
  refine (r_aloadnX f333_27 rfl).trans ?_
  refine (r_iloadn f333_28 rfl).trans ?_
  refine (r_xld (v := (xs 0)) f333_29 hX (by decide) rfl).trans ?_
  refine (r_bipush (v := 63) f333_30 rfl).trans ?_
  refine (r_iand (v := 51) f333_32 hk).trans ?_
  refine (r_tsw f333_33).trans ?_
  refine (asw_f (by decide)).trans ?_
  refine (asw_f (by decide)).trans ?_
  refine (asw_f (by decide)).trans ?_
  refine (asw_f (by decide)).trans ?_
  refine (asw_f (by decide)).trans ?_
  refine (asw_f (by decide)).trans ?_
  refine (asw_f (by decide)).trans ?_
  refine (asw_f (by decide)).trans ?_
  refine (asw_f (by decide)).trans ?_
  refine (asw_f (by decide)).trans ?_
  refine (asw_f (by decide)).trans ?_
  refine (asw_f (by decide)).trans ?_
  refine (asw_f (by decide)).trans ?_
  refine (asw_f (by decide)).trans ?_
  refine (asw_f (by decide)).trans ?_
  refine (asw_f (by decide)).trans ?_
  refine (asw_f (by decide)).trans ?_
  refine (asw_f (by decide)).trans ?_
  refine (asw_f (by decide)).trans ?_
  refine (asw_f (by decide)).trans ?_
  refine (asw_f (by decide)).trans ?_
  refine (asw_f (by decide)).trans ?_
  refine (asw_f (by decide)).trans ?_
  refine (asw_f (by decide)).trans ?_
  refine (asw_f (by decide)).trans ?_
  refine (asw_f (by decide)).trans ?_
  refine (asw_f (by decide)).trans ?_
  refine (asw_f (by decide)).trans ?_
  refine (asw_f (by decide)).trans ?_
  refine (asw_f (by decide)).trans ?_
  refine (asw_f (by decide)).trans ?_
  refine (asw_f (by decide)).trans ?_
  refine (asw_f (by decide)).trans ?_
  refine (asw_f (by decide)).trans ?_
  refine (asw_f (by decide)).trans ?_
  refine (asw_f (by decide)).trans ?_
  refine (asw_f (by decide)).trans ?_
  refine (asw_f (by decide)).trans ?_
  refine (asw_f (by decide)).trans ?_
  refine (asw_f (by decide)).trans ?_
  refine (asw_f (by decide)).trans ?_
  refine (asw_f (by decide)).trans ?_
  refine (asw_f (by decide)).trans ?_
  refine (asw_f (by decide)).trans ?_
  refine (asw_f (by decide)).trans ?_
  refine (asw_f (by decide)).trans ?_
  refine (asw_f (by decide)).trans ?_
  refine (asw_f (by decide)).trans ?_
  refine (asw_f (by decide)).trans ?_
  refine (asw_f (by decide)).trans ?_
  refine (asw_f (by decide)).trans ?_
  refine (asw_d).trans ?_
  refine (r_iinc (v := 6) (L' := [some (.retAddr 1), some (.ref 0), some (.ref 72), some (.int 6)]) f333_2076 rfl rfl rfl).trans ?_
  refine (r_goto f333_2079).trans ?_
  refine (r_iloadn f333_18 rfl).trans ?_
  refine (r_aloadnX f333_19 rfl).trans ?_
  refine (r_xlen (v := 6) f333_20 hX rfl).trans ?_
  refine (r_bipush (v := 6) f333_21 rfl).trans ?_
  refine (r_isub (v := 0) f333_23 (by decide)).trans ?_
  refine (r_icmp_gt_t f333_24 (by decide)).trans ?_
  refine (r_iconst (v := 1) f333_2082 rfl).trans ?_
  exact r_zreturn f333_2083 rfl (by decide)
set_option maxRecDepth 20000 in
theorem lc_52 {X : aX} {xs : Nat → Int32} (hX : X 1 = some (6, xs)) (hk : xs 0 &&& 63 = 52) : ∃ h2 : aH, (∀ n d : Nat, arun X (n + 1002000) (d + 30) zM333 18 [some (.retAddr 1), some (.ref 0), some (.ref 72), some (.int 0)] [] zH0 = some (some (.int 1), h2)) ∧ h2.1.length ≤ 600000 ∧ h2.2 ≤ 7302250 := by
  refine ⟨zH0, fun n d => ?_, by rw [zH0_len]; decide, by decide⟩
  refine (r_iloadn f333_18 rfl).trans ?_
  refine (r_aloadnX f333_19 rfl).trans ?_
  refine (r_xlen (v := 6) f333_20 hX rfl).trans ?_
  refine (r_bipush (v := 6) f333_21 rfl).trans ?_
  refine (r_isub (v := 0) f333_23 (by decide)).trans ?_
  refine (r_icmp_gt_f f333_24 (by decide)).trans ?_
  refine (r_aloadnX f333_27 rfl).trans ?_
  refine (r_iloadn f333_28 rfl).trans ?_
  refine (r_xld (v := (xs 0)) f333_29 hX (by decide) rfl).trans ?_
  refine (r_bipush (v := 63) f333_30 rfl).trans ?_
  refine (r_iand (v := 52) f333_32 hk).trans ?_
  refine (r_tsw f333_33).trans ?_
  refine (asw_f (by decide)).trans ?_
  refine (asw_f (by decide)).trans ?_
  refine (asw_f (by decide)).trans ?_
  refine (asw_f (by decide)).trans ?_
  refine (asw_f (by decide)).trans ?_
  refine (asw_f (by decide)).trans ?_
  refine (asw_f (by decide)).trans ?_
  refine (asw_f (by decide)).trans ?_
  refine (asw_f (by decide)).trans ?_
  refine (asw_f (by decide)).trans ?_
  refine (asw_f (by decide)).trans ?_
  refine (asw_f (by decide)).trans ?_
  refine (asw_f (by decide)).trans ?_
  refine (asw_f (by decide)).trans ?_
  refine (asw_f (by decide)).trans ?_
  refine (asw_f (by decide)).trans ?_
  refine (asw_f (by decide)).trans ?_
  refine (asw_f (by decide)).trans ?_
  refine (asw_f (by decide)).trans ?_
  refine (asw_f (by decide)).trans ?_
  refine (asw_f (by decide)).trans ?_
  refine (asw_f (by decide)).trans ?_
  refine (asw_f (by decide)).trans ?_
  refine (asw_f (by decide)).trans ?_
  refine (asw_f (by decide)).trans ?_
  refine (asw_f (by decide)).trans ?_
  refine (asw_f (by decide)).trans ?_
  refine (asw_f (by decide)).trans ?_
  refine (asw_f (by decide)).trans ?_
  refine (asw_f (by decide)).trans ?_
  refine (asw_f (by decide)).trans ?_
  refine (asw_f (by decide)).trans ?_
  refine (asw_f (by decide)).trans ?_
  refine (asw_f (by decide)).trans ?_
  refine (asw_f (by decide)).trans ?_
  refine (asw_f (by decide)).trans ?_
  refine (asw_f (by decide)).trans ?_
  refine (asw_f (by decide)).trans ?_
  refine (asw_f (by decide)).trans ?_
  refine (asw_f (by decide)).trans ?_
  refine (asw_f (by decide)).trans ?_
  refine (asw_f (by decide)).trans ?_
  refine (asw_f (by decide)).trans ?_
  refine (asw_f (by decide)).trans ?_
  refine (asw_f (by decide)).trans ?_
  refine (asw_f (by decide)).trans ?_
  refine (asw_f (by decide)).trans ?_
  refine (asw_f (by decide)).trans ?_
  refine (asw_f (by decide)).trans ?_
  refine (asw_f (by decide)).trans ?_
  refine (asw_f (by decide)).trans ?_
  refine (asw_d).trans ?_
  refine (r_iinc (v := 6) (L' := [some (.retAddr 1), some (.ref 0), some (.ref 72), some (.int 6)]) f333_2076 rfl rfl rfl).trans ?_
  refine (r_goto f333_2079).trans ?_
  refine (r_iloadn f333_18 rfl).trans ?_
  refine (r_aloadnX f333_19 rfl).trans ?_
  refine (r_xlen (v := 6) f333_20 hX rfl).trans ?_
  refine (r_bipush (v := 6) f333_21 rfl).trans ?_
  refine (r_isub (v := 0) f333_23 (by decide)).trans ?_
  refine (r_icmp_gt_t f333_24 (by decide)).trans ?_
  refine (r_iconst (v := 1) f333_2082 rfl).trans ?_
  exact r_zreturn f333_2083 rfl (by decide)
set_option maxRecDepth 20000 in
theorem lc_53 {X : aX} {xs : Nat → Int32} (hX : X 1 = some (6, xs)) (hk : xs 0 &&& 63 = 53) : ∃ h2 : aH, (∀ n d : Nat, arun X (n + 1002000) (d + 30) zM333 18 [some (.retAddr 1), some (.ref 0), some (.ref 72), some (.int 0)] [] zH0 = some (some (.int 1), h2)) ∧ h2.1.length ≤ 600000 ∧ h2.2 ≤ 7302250 := by
  refine ⟨zH0, fun n d => ?_, by rw [zH0_len]; decide, by decide⟩
  refine (r_iloadn f333_18 rfl).trans ?_
  refine (r_aloadnX f333_19 rfl).trans ?_
  refine (r_xlen (v := 6) f333_20 hX rfl).trans ?_
  refine (r_bipush (v := 6) f333_21 rfl).trans ?_
  refine (r_isub (v := 0) f333_23 (by decide)).trans ?_
  refine (r_icmp_gt_f f333_24 (by decide)).trans ?_
  refine (r_aloadnX f333_27 rfl).trans ?_
  refine (r_iloadn f333_28 rfl).trans ?_
  refine (r_xld (v := (xs 0)) f333_29 hX (by decide) rfl).trans ?_
  refine (r_bipush (v := 63) f333_30 rfl).trans ?_
  refine (r_iand (v := 53) f333_32 hk).trans ?_
  refine (r_tsw f333_33).trans ?_
  refine (asw_f (by decide)).trans ?_
  refine (asw_f (by decide)).trans ?_
  refine (asw_f (by decide)).trans ?_
  refine (asw_f (by decide)).trans ?_
  refine (asw_f (by decide)).trans ?_
  refine (asw_f (by decide)).trans ?_
  refine (asw_f (by decide)).trans ?_
  refine (asw_f (by decide)).trans ?_
  refine (asw_f (by decide)).trans ?_
  refine (asw_f (by decide)).trans ?_
  refine (asw_f (by decide)).trans ?_
  refine (asw_f (by decide)).trans ?_
  refine (asw_f (by decide)).trans ?_
  refine (asw_f (by decide)).trans ?_
  refine (asw_f (by decide)).trans ?_
  refine (asw_f (by decide)).trans ?_
  refine (asw_f (by decide)).trans ?_
  refine (asw_f (by decide)).trans ?_
  refine (asw_f (by decide)).trans ?_
  refine (asw_f (by decide)).trans ?_
  refine (asw_f (by decide)).trans ?_
  refine (asw_f (by decide)).trans ?_
  refine (asw_f (by decide)).trans ?_
  refine (asw_f (by decide)).trans ?_
  refine (asw_f (by decide)).trans ?_
  refine (asw_f (by decide)).trans ?_
  refine (asw_f (by decide)).trans ?_
  refine (asw_f (by decide)).trans ?_
  refine (asw_f (by decide)).trans ?_
  refine (asw_f (by decide)).trans ?_
  refine (asw_f (by decide)).trans ?_
  refine (asw_f (by decide)).trans ?_
  refine (asw_f (by decide)).trans ?_
  refine (asw_f (by decide)).trans ?_
  refine (asw_f (by decide)).trans ?_
  refine (asw_f (by decide)).trans ?_
  refine (asw_f (by decide)).trans ?_
  refine (asw_f (by decide)).trans ?_
  refine (asw_f (by decide)).trans ?_
  refine (asw_f (by decide)).trans ?_
  refine (asw_f (by decide)).trans ?_
  refine (asw_f (by decide)).trans ?_
  refine (asw_f (by decide)).trans ?_
  refine (asw_f (by decide)).trans ?_
  refine (asw_f (by decide)).trans ?_
  refine (asw_f (by decide)).trans ?_
  refine (asw_f (by decide)).trans ?_
  refine (asw_f (by decide)).trans ?_
  refine (asw_f (by decide)).trans ?_
  refine (asw_f (by decide)).trans ?_
  refine (asw_f (by decide)).trans ?_
  refine (asw_d).trans ?_
  refine (r_iinc (v := 6) (L' := [some (.retAddr 1), some (.ref 0), some (.ref 72), some (.int 6)]) f333_2076 rfl rfl rfl).trans ?_
  refine (r_goto f333_2079).trans ?_
  refine (r_iloadn f333_18 rfl).trans ?_
  refine (r_aloadnX f333_19 rfl).trans ?_
  refine (r_xlen (v := 6) f333_20 hX rfl).trans ?_
  refine (r_bipush (v := 6) f333_21 rfl).trans ?_
  refine (r_isub (v := 0) f333_23 (by decide)).trans ?_
  refine (r_icmp_gt_t f333_24 (by decide)).trans ?_
  refine (r_iconst (v := 1) f333_2082 rfl).trans ?_
  exact r_zreturn f333_2083 rfl (by decide)
set_option maxRecDepth 20000 in
theorem lc_54 {X : aX} {xs : Nat → Int32} (hX : X 1 = some (6, xs)) (hk : xs 0 &&& 63 = 54) : ∃ h2 : aH, (∀ n d : Nat, arun X (n + 1002000) (d + 30) zM333 18 [some (.retAddr 1), some (.ref 0), some (.ref 72), some (.int 0)] [] zH0 = some (some (.int 1), h2)) ∧ h2.1.length ≤ 600000 ∧ h2.2 ≤ 7302250 := by
  refine ⟨zH0, fun n d => ?_, by rw [zH0_len]; decide, by decide⟩
  refine (r_iloadn f333_18 rfl).trans ?_
  refine (r_aloadnX f333_19 rfl).trans ?_
  refine (r_xlen (v := 6) f333_20 hX rfl).trans ?_
  refine (r_bipush (v := 6) f333_21 rfl).trans ?_
  refine (r_isub (v := 0) f333_23 (by decide)).trans ?_
  refine (r_icmp_gt_f f333_24 (by decide)).trans ?_
  refine (r_aloadnX f333_27 rfl).trans ?_
  refine (r_iloadn f333_28 rfl).trans ?_
  refine (r_xld (v := (xs 0)) f333_29 hX (by decide) rfl).trans ?_
  refine (r_bipush (v := 63) f333_30 rfl).trans ?_
  refine (r_iand (v := 54) f333_32 hk).trans ?_
  refine (r_tsw f333_33).trans ?_
  refine (asw_f (by decide)).trans ?_
  refine (asw_f (by decide)).trans ?_
  refine (asw_f (by decide)).trans ?_
  refine (asw_f (by decide)).trans ?_
  refine (asw_f (by decide)).trans ?_
  refine (asw_f (by decide)).trans ?_
  refine (asw_f (by decide)).trans ?_
  refine (asw_f (by decide)).trans ?_
  refine (asw_f (by decide)).trans ?_
  refine (asw_f (by decide)).trans ?_
  refine (asw_f (by decide)).trans ?_
  refine (asw_f (by decide)).trans ?_
  refine (asw_f (by decide)).trans ?_
  refine (asw_f (by decide)).trans ?_
  refine (asw_f (by decide)).trans ?_
  refine (asw_f (by decide)).trans ?_
  refine (asw_f (by decide)).trans ?_
  refine (asw_f (by decide)).trans ?_
  refine (asw_f (by decide)).trans ?_
  refine (asw_f (by decide)).trans ?_
  refine (asw_f (by decide)).trans ?_
  refine (asw_f (by decide)).trans ?_
  refine (asw_f (by decide)).trans ?_
  refine (asw_f (by decide)).trans ?_
  refine (asw_f (by decide)).trans ?_
  refine (asw_f (by decide)).trans ?_
  refine (asw_f (by decide)).trans ?_
  refine (asw_f (by decide)).trans ?_
  refine (asw_f (by decide)).trans ?_
  refine (asw_f (by decide)).trans ?_
  refine (asw_f (by decide)).trans ?_
  refine (asw_f (by decide)).trans ?_
  refine (asw_f (by decide)).trans ?_
  refine (asw_f (by decide)).trans ?_
  refine (asw_f (by decide)).trans ?_
  refine (asw_f (by decide)).trans ?_
  refine (asw_f (by decide)).trans ?_
  refine (asw_f (by decide)).trans ?_
  refine (asw_f (by decide)).trans ?_
  refine (asw_f (by decide)).trans ?_
  refine (asw_f (by decide)).trans ?_
  refine (asw_f (by decide)).trans ?_
  refine (asw_f (by decide)).trans ?_
  refine (asw_f (by decide)).trans ?_
  refine (asw_f (by decide)).trans ?_
  refine (asw_f (by decide)).trans ?_
  refine (asw_f (by decide)).trans ?_
  refine (asw_f (by decide)).trans ?_
  refine (asw_f (by decide)).trans ?_
  refine (asw_f (by decide)).trans ?_
  refine (asw_f (by decide)).trans ?_
  refine (asw_d).trans ?_
  refine (r_iinc (v := 6) (L' := [some (.retAddr 1), some (.ref 0), some (.ref 72), some (.int 6)]) f333_2076 rfl rfl rfl).trans ?_
  refine (r_goto f333_2079).trans ?_
  refine (r_iloadn f333_18 rfl).trans ?_
  refine (r_aloadnX f333_19 rfl).trans ?_
  refine (r_xlen (v := 6) f333_20 hX rfl).trans ?_
  refine (r_bipush (v := 6) f333_21 rfl).trans ?_
  refine (r_isub (v := 0) f333_23 (by decide)).trans ?_
  refine (r_icmp_gt_t f333_24 (by decide)).trans ?_
  refine (r_iconst (v := 1) f333_2082 rfl).trans ?_
  exact r_zreturn f333_2083 rfl (by decide)
set_option maxRecDepth 20000 in
theorem lc_55 {X : aX} {xs : Nat → Int32} (hX : X 1 = some (6, xs)) (hk : xs 0 &&& 63 = 55) : ∃ h2 : aH, (∀ n d : Nat, arun X (n + 1002000) (d + 30) zM333 18 [some (.retAddr 1), some (.ref 0), some (.ref 72), some (.int 0)] [] zH0 = some (some (.int 1), h2)) ∧ h2.1.length ≤ 600000 ∧ h2.2 ≤ 7302250 := by
  refine ⟨zH0, fun n d => ?_, by rw [zH0_len]; decide, by decide⟩
  refine (r_iloadn f333_18 rfl).trans ?_
  refine (r_aloadnX f333_19 rfl).trans ?_
  refine (r_xlen (v := 6) f333_20 hX rfl).trans ?_
  refine (r_bipush (v := 6) f333_21 rfl).trans ?_
  refine (r_isub (v := 0) f333_23 (by decide)).trans ?_
  refine (r_icmp_gt_f f333_24 (by decide)).trans ?_
  refine (r_aloadnX f333_27 rfl).trans ?_
  refine (r_iloadn f333_28 rfl).trans ?_
  refine (r_xld (v := (xs 0)) f333_29 hX (by decide) rfl).trans ?_
  refine (r_bipush (v := 63) f333_30 rfl).trans ?_
  refine (r_iand (v := 55) f333_32 hk).trans ?_
  refine (r_tsw f333_33).trans ?_
  refine (asw_f (by decide)).trans ?_
  refine (asw_f (by decide)).trans ?_
  refine (asw_f (by decide)).trans ?_
  refine (asw_f (by decide)).trans ?_
  refine (asw_f (by decide)).trans ?_
  refine (asw_f (by decide)).trans ?_
  refine (asw_f (by decide)).trans ?_
  refine (asw_f (by decide)).trans ?_
  refine (asw_f (by decide)).trans ?_
  refine (asw_f (by decide)).trans ?_
  refine (asw_f (by decide)).trans ?_
  refine (asw_f (by decide)).trans ?_
  refine (asw_f (by decide)).trans ?_
  refine (asw_f (by decide)).trans ?_
  refine (asw_f (by decide)).trans ?_
  refine (asw_f (by decide)).trans ?_
  refine (asw_f (by decide)).trans ?_
  refine (asw_f (by decide)).trans ?_
  refine (asw_f (by decide)).trans ?_
  refine (asw_f (by decide)).trans ?_
  refine (asw_f (by decide)).trans ?_
  refine (asw_f (by decide)).trans ?_
  refine (asw_f (by decide)).trans ?_
  refine (asw_f (by decide)).trans ?_
  refine (asw_f (by decide)).trans ?_
  refine (asw_f (by decide)).trans ?_
  refine (asw_f (by decide)).trans ?_
  refine (asw_f (by decide)).trans ?_
  refine (asw_f (by decide)).trans ?_
  refine (asw_f (by decide)).trans ?_
  refine (asw_f (by decide)).trans ?_
  refine (asw_f (by decide)).trans ?_
  refine (asw_f (by decide)).trans ?_
  refine (asw_f (by decide)).trans ?_
  refine (asw_f (by decide)).trans ?_
  refine (asw_f (by decide)).trans ?_
  refine (asw_f (by decide)).trans ?_
  refine (asw_f (by decide)).trans ?_
  refine (asw_f (by decide)).trans ?_
  refine (asw_f (by decide)).trans ?_
  refine (asw_f (by decide)).trans ?_
  refine (asw_f (by decide)).trans ?_
  refine (asw_f (by decide)).trans ?_
  refine (asw_f (by decide)).trans ?_
  refine (asw_f (by decide)).trans ?_
  refine (asw_f (by decide)).trans ?_
  refine (asw_f (by decide)).trans ?_
  refine (asw_f (by decide)).trans ?_
  refine (asw_f (by decide)).trans ?_
  refine (asw_f (by decide)).trans ?_
  refine (asw_f (by decide)).trans ?_
  refine (asw_d).trans ?_
  refine (r_iinc (v := 6) (L' := [some (.retAddr 1), some (.ref 0), some (.ref 72), some (.int 6)]) f333_2076 rfl rfl rfl).trans ?_
  refine (r_goto f333_2079).trans ?_
  refine (r_iloadn f333_18 rfl).trans ?_
  refine (r_aloadnX f333_19 rfl).trans ?_
  refine (r_xlen (v := 6) f333_20 hX rfl).trans ?_
  refine (r_bipush (v := 6) f333_21 rfl).trans ?_
  refine (r_isub (v := 0) f333_23 (by decide)).trans ?_
  refine (r_icmp_gt_t f333_24 (by decide)).trans ?_
  refine (r_iconst (v := 1) f333_2082 rfl).trans ?_
  exact r_zreturn f333_2083 rfl (by decide)
set_option maxRecDepth 20000 in
theorem lc_56 {X : aX} {xs : Nat → Int32} (hX : X 1 = some (6, xs)) (hk : xs 0 &&& 63 = 56) : ∃ h2 : aH, (∀ n d : Nat, arun X (n + 1002000) (d + 30) zM333 18 [some (.retAddr 1), some (.ref 0), some (.ref 72), some (.int 0)] [] zH0 = some (some (.int 1), h2)) ∧ h2.1.length ≤ 600000 ∧ h2.2 ≤ 7302250 := by
  refine ⟨zH0, fun n d => ?_, by rw [zH0_len]; decide, by decide⟩
  refine (r_iloadn f333_18 rfl).trans ?_
  refine (r_aloadnX f333_19 rfl).trans ?_
  refine (r_xlen (v := 6) f333_20 hX rfl).trans ?_
  refine (r_bipush (v := 6) f333_21 rfl).trans ?_
  refine (r_isub (v := 0) f333_23 (by decide)).trans ?_
  refine (r_icmp_gt_f f333_24 (by decide)).trans ?_
  refine (r_aloadnX f333_27 rfl).trans ?_
  refine (r_iloadn f333_28 rfl).trans ?_
  refine (r_xld (v := (xs 0)) f333_29 hX (by decide) rfl).trans ?_
  refine (r_bipush (v := 63) f333_30 rfl).trans ?_
  refine (r_iand (v := 56) f333_32 hk).trans ?_
  refine (r_tsw f333_33).trans ?_
  refine (asw_f (by decide)).trans ?_
  refine (asw_f (by decide)).trans ?_
  refine (asw_f (by decide)).trans ?_
  refine (asw_f (by decide)).trans ?_
  refine (asw_f (by decide)).trans ?_
  refine (asw_f (by decide)).trans ?_
  refine (asw_f (by decide)).trans ?_
  refine (asw_f (by decide)).trans ?_
  refine (asw_f (by decide)).trans ?_
  refine (asw_f (by decide)).trans ?_
  refine (asw_f (by decide)).trans ?_
  refine (asw_f (by decide)).trans ?_
  refine (asw_f (by decide)).trans ?_
  refine (asw_f (by decide)).trans ?_
  refine (asw_f (by decide)).trans ?_
  refine (asw_f (by decide)).trans ?_
  refine (asw_f (by decide)).trans ?_
  refine (asw_f (by decide)).trans ?_
  refine (asw_f (by decide)).trans ?_
  refine (asw_f (by decide)).trans ?_
  refine (asw_f (by decide)).trans ?_
  refine (asw_f (by decide)).trans ?_
  refine (asw_f (by decide)).trans ?_
  refine (asw_f (by decide)).trans ?_
  refine (asw_f (by decide)).trans ?_
  refine (asw_f (by decide)).trans ?_
  refine (asw_f (by decide)).trans ?_
  refine (asw_f (by decide)).trans ?_
  refine (asw_f (by decide)).trans ?_
  refine (asw_f (by decide)).trans ?_
  refine (asw_f (by decide)).trans ?_
  refine (asw_f (by decide)).trans ?_
  refine (asw_f (by decide)).trans ?_
  refine (asw_f (by decide)).trans ?_
  refine (asw_f (by decide)).trans ?_
  refine (asw_f (by decide)).trans ?_
  refine (asw_f (by decide)).trans ?_
  refine (asw_f (by decide)).trans ?_
  refine (asw_f (by decide)).trans ?_
  refine (asw_f (by decide)).trans ?_
  refine (asw_f (by decide)).trans ?_
  refine (asw_f (by decide)).trans ?_
  refine (asw_f (by decide)).trans ?_
  refine (asw_f (by decide)).trans ?_
  refine (asw_f (by decide)).trans ?_
  refine (asw_f (by decide)).trans ?_
  refine (asw_f (by decide)).trans ?_
  refine (asw_f (by decide)).trans ?_
  refine (asw_f (by decide)).trans ?_
  refine (asw_f (by decide)).trans ?_
  refine (asw_f (by decide)).trans ?_
  refine (asw_d).trans ?_
  refine (r_iinc (v := 6) (L' := [some (.retAddr 1), some (.ref 0), some (.ref 72), some (.int 6)]) f333_2076 rfl rfl rfl).trans ?_
  refine (r_goto f333_2079).trans ?_
  refine (r_iloadn f333_18 rfl).trans ?_
  refine (r_aloadnX f333_19 rfl).trans ?_
  refine (r_xlen (v := 6) f333_20 hX rfl).trans ?_
  refine (r_bipush (v := 6) f333_21 rfl).trans ?_
  refine (r_isub (v := 0) f333_23 (by decide)).trans ?_
  refine (r_icmp_gt_t f333_24 (by decide)).trans ?_
  refine (r_iconst (v := 1) f333_2082 rfl).trans ?_
  exact r_zreturn f333_2083 rfl (by decide)
set_option maxRecDepth 20000 in
theorem lc_57 {X : aX} {xs : Nat → Int32} (hX : X 1 = some (6, xs)) (hk : xs 0 &&& 63 = 57) : ∃ h2 : aH, (∀ n d : Nat, arun X (n + 1002000) (d + 30) zM333 18 [some (.retAddr 1), some (.ref 0), some (.ref 72), some (.int 0)] [] zH0 = some (some (.int 1), h2)) ∧ h2.1.length ≤ 600000 ∧ h2.2 ≤ 7302250 := by
  refine ⟨zH0, fun n d => ?_, by rw [zH0_len]; decide, by decide⟩
  refine (r_iloadn f333_18 rfl).trans ?_
  refine (r_aloadnX f333_19 rfl).trans ?_
  refine (r_xlen (v := 6) f333_20 hX rfl).trans ?_
  refine (r_bipush (v := 6) f333_21 rfl).trans ?_
  refine (r_isub (v := 0) f333_23 (by decide)).trans ?_
  refine (r_icmp_gt_f f333_24 (by decide)).trans ?_
  refine (r_aloadnX f333_27 rfl).trans ?_
  refine (r_iloadn f333_28 rfl).trans ?_
  refine (r_xld (v := (xs 0)) f333_29 hX (by decide) rfl).trans ?_
  refine (r_bipush (v := 63) f333_30 rfl).trans ?_
  refine (r_iand (v := 57) f333_32 hk).trans ?_
  refine (r_tsw f333_33).trans ?_
  refine (asw_f (by decide)).trans ?_
  refine (asw_f (by decide)).trans ?_
  refine (asw_f (by decide)).trans ?_
  refine (asw_f (by decide)).trans ?_
  refine (asw_f (by decide)).trans ?_
  refine (asw_f (by decide)).trans ?_
  refine (asw_f (by decide)).trans ?_
  refine (asw_f (by decide)).trans ?_
  refine (asw_f (by decide)).trans ?_
  refine (asw_f (by decide)).trans ?_
  refine (asw_f (by decide)).trans ?_
  refine (asw_f (by decide)).trans ?_
  refine (asw_f (by decide)).trans ?_
  refine (asw_f (by decide)).trans ?_
  refine (asw_f (by decide)).trans ?_
  refine (asw_f (by decide)).trans ?_
  refine (asw_f (by decide)).trans ?_
  refine (asw_f (by decide)).trans ?_
  refine (asw_f (by decide)).trans ?_
  refine (asw_f (by decide)).trans ?_
  refine (asw_f (by decide)).trans ?_
  refine (asw_f (by decide)).trans ?_
  refine (asw_f (by decide)).trans ?_
  refine (asw_f (by decide)).trans ?_
  refine (asw_f (by decide)).trans ?_
  refine (asw_f (by decide)).trans ?_
  refine (asw_f (by decide)).trans ?_
  refine (asw_f (by decide)).trans ?_
  refine (asw_f (by decide)).trans ?_
  refine (asw_f (by decide)).trans ?_
  refine (asw_f (by decide)).trans ?_
  refine (asw_f (by decide)).trans ?_
  refine (asw_f (by decide)).trans ?_
  refine (asw_f (by decide)).trans ?_
  refine (asw_f (by decide)).trans ?_
  refine (asw_f (by decide)).trans ?_
  refine (asw_f (by decide)).trans ?_
  refine (asw_f (by decide)).trans ?_
  refine (asw_f (by decide)).trans ?_
  refine (asw_f (by decide)).trans ?_
  refine (asw_f (by decide)).trans ?_
  refine (asw_f (by decide)).trans ?_
  refine (asw_f (by decide)).trans ?_
  refine (asw_f (by decide)).trans ?_
  refine (asw_f (by decide)).trans ?_
  refine (asw_f (by decide)).trans ?_
  refine (asw_f (by decide)).trans ?_
  refine (asw_f (by decide)).trans ?_
  refine (asw_f (by decide)).trans ?_
  refine (asw_f (by decide)).trans ?_
  refine (asw_f (by decide)).trans ?_
  refine (asw_d).trans ?_
  refine (r_iinc (v := 6) (L' := [some (.retAddr 1), some (.ref 0), some (.ref 72), some (.int 6)]) f333_2076 rfl rfl rfl).trans ?_
  refine (r_goto f333_2079).trans ?_
  refine (r_iloadn f333_18 rfl).trans ?_
  refine (r_aloadnX f333_19 rfl).trans ?_
  refine (r_xlen (v := 6) f333_20 hX rfl).trans ?_
  refine (r_bipush (v := 6) f333_21 rfl).trans ?_
  refine (r_isub (v := 0) f333_23 (by decide)).trans ?_
  refine (r_icmp_gt_t f333_24 (by decide)).trans ?_
  refine (r_iconst (v := 1) f333_2082 rfl).trans ?_
  exact r_zreturn f333_2083 rfl (by decide)
set_option maxRecDepth 20000 in
theorem lc_58 {X : aX} {xs : Nat → Int32} (hX : X 1 = some (6, xs)) (hk : xs 0 &&& 63 = 58) : ∃ h2 : aH, (∀ n d : Nat, arun X (n + 1002000) (d + 30) zM333 18 [some (.retAddr 1), some (.ref 0), some (.ref 72), some (.int 0)] [] zH0 = some (some (.int 1), h2)) ∧ h2.1.length ≤ 600000 ∧ h2.2 ≤ 7302250 := by
  refine ⟨zH0, fun n d => ?_, by rw [zH0_len]; decide, by decide⟩
  refine (r_iloadn f333_18 rfl).trans ?_
  refine (r_aloadnX f333_19 rfl).trans ?_
  refine (r_xlen (v := 6) f333_20 hX rfl).trans ?_
  refine (r_bipush (v := 6) f333_21 rfl).trans ?_
  refine (r_isub (v := 0) f333_23 (by decide)).trans ?_
  refine (r_icmp_gt_f f333_24 (by decide)).trans ?_
  refine (r_aloadnX f333_27 rfl).trans ?_
  refine (r_iloadn f333_28 rfl).trans ?_
  refine (r_xld (v := (xs 0)) f333_29 hX (by decide) rfl).trans ?_
  refine (r_bipush (v := 63) f333_30 rfl).trans ?_
  refine (r_iand (v := 58) f333_32 hk).trans ?_
  refine (r_tsw f333_33).trans ?_
  refine (asw_f (by decide)).trans ?_
  refine (asw_f (by decide)).trans ?_
  refine (asw_f (by decide)).trans ?_
  refine (asw_f (by decide)).trans ?_
  refine (asw_f (by decide)).trans ?_
  refine (asw_f (by decide)).trans ?_
  refine (asw_f (by decide)).trans ?_
  refine (asw_f (by decide)).trans ?_
  refine (asw_f (by decide)).trans ?_
  refine (asw_f (by decide)).trans ?_
  refine (asw_f (by decide)).trans ?_
  refine (asw_f (by decide)).trans ?_
  refine (asw_f (by decide)).trans ?_
  refine (asw_f (by decide)).trans ?_
  refine (asw_f (by decide)).trans ?_
  refine (asw_f (by decide)).trans ?_
  refine (asw_f (by decide)).trans ?_
  refine (asw_f (by decide)).trans ?_
  refine (asw_f (by decide)).trans ?_
  refine (asw_f (by decide)).trans ?_
  refine (asw_f (by decide)).trans ?_
  refine (asw_f (by decide)).trans ?_
  refine (asw_f (by decide)).trans ?_
  refine (asw_f (by decide)).trans ?_
  refine (asw_f (by decide)).trans ?_
  refine (asw_f (by decide)).trans ?_
  refine (asw_f (by decide)).trans ?_
  refine (asw_f (by decide)).trans ?_
  refine (asw_f (by decide)).trans ?_
  refine (asw_f (by decide)).trans ?_
  refine (asw_f (by decide)).trans ?_
  refine (asw_f (by decide)).trans ?_
  refine (asw_f (by decide)).trans ?_
  refine (asw_f (by decide)).trans ?_
  refine (asw_f (by decide)).trans ?_
  refine (asw_f (by decide)).trans ?_
  refine (asw_f (by decide)).trans ?_
  refine (asw_f (by decide)).trans ?_
  refine (asw_f (by decide)).trans ?_
  refine (asw_f (by decide)).trans ?_
  refine (asw_f (by decide)).trans ?_
  refine (asw_f (by decide)).trans ?_
  refine (asw_f (by decide)).trans ?_
  refine (asw_f (by decide)).trans ?_
  refine (asw_f (by decide)).trans ?_
  refine (asw_f (by decide)).trans ?_
  refine (asw_f (by decide)).trans ?_
  refine (asw_f (by decide)).trans ?_
  refine (asw_f (by decide)).trans ?_
  refine (asw_f (by decide)).trans ?_
  refine (asw_f (by decide)).trans ?_
  refine (asw_d).trans ?_
  refine (r_iinc (v := 6) (L' := [some (.retAddr 1), some (.ref 0), some (.ref 72), some (.int 6)]) f333_2076 rfl rfl rfl).trans ?_
  refine (r_goto f333_2079).trans ?_
  refine (r_iloadn f333_18 rfl).trans ?_
  refine (r_aloadnX f333_19 rfl).trans ?_
  refine (r_xlen (v := 6) f333_20 hX rfl).trans ?_
  refine (r_bipush (v := 6) f333_21 rfl).trans ?_
  refine (r_isub (v := 0) f333_23 (by decide)).trans ?_
  refine (r_icmp_gt_t f333_24 (by decide)).trans ?_
  refine (r_iconst (v := 1) f333_2082 rfl).trans ?_
  exact r_zreturn f333_2083 rfl (by decide)
set_option maxRecDepth 20000 in
theorem lc_59 {X : aX} {xs : Nat → Int32} (hX : X 1 = some (6, xs)) (hk : xs 0 &&& 63 = 59) : ∃ h2 : aH, (∀ n d : Nat, arun X (n + 1002000) (d + 30) zM333 18 [some (.retAddr 1), some (.ref 0), some (.ref 72), some (.int 0)] [] zH0 = some (some (.int 1), h2)) ∧ h2.1.length ≤ 600000 ∧ h2.2 ≤ 7302250 := by
  refine ⟨zH0, fun n d => ?_, by rw [zH0_len]; decide, by decide⟩
  refine (r_iloadn f333_18 rfl).trans ?_
  refine (r_aloadnX f333_19 rfl).trans ?_
  refine (r_xlen (v := 6) f333_20 hX rfl).trans ?_
  refine (r_bipush (v := 6) f333_21 rfl).trans ?_
  refine (r_isub (v := 0) f333_23 (by decide)).trans ?_
  refine (r_icmp_gt_f f333_24 (by decide)).trans ?_
  refine (r_aloadnX f333_27 rfl).trans ?_
  refine (r_iloadn f333_28 rfl).trans ?_
  refine (r_xld (v := (xs 0)) f333_29 hX (by decide) rfl).trans ?_
  refine (r_bipush (v := 63) f333_30 rfl).trans ?_
  refine (r_iand (v := 59) f333_32 hk).trans ?_
  refine (r_tsw f333_33).trans ?_
  refine (asw_f (by decide)).trans ?_
  refine (asw_f (by decide)).trans ?_
  refine (asw_f (by decide)).trans ?_
  refine (asw_f (by decide)).trans ?_
  refine (asw_f (by decide)).trans ?_
  refine (asw_f (by decide)).trans ?_
  refine (asw_f (by decide)).trans ?_
  refine (asw_f (by decide)).trans ?_
  refine (asw_f (by decide)).trans ?_
  refine (asw_f (by decide)).trans ?_
  refine (asw_f (by decide)).trans ?_
  refine (asw_f (by decide)).trans ?_
  refine (asw_f (by decide)).trans ?_
  refine (asw_f (by decide)).trans ?_
  refine (asw_f (by decide)).trans ?_
  refine (asw_f (by decide)).trans ?_
  refine (asw_f (by decide)).trans ?_
  refine (asw_f (by decide)).trans ?_
  refine (asw_f (by decide)).trans ?_
  refine (asw_f (by decide)).trans ?_
  refine (asw_f (by decide)).trans ?_
  refine (asw_f (by decide)).trans ?_
  refine (asw_f (by decide)).trans ?_
  refine (asw_f (by decide)).trans ?_
  refine (asw_f (by decide)).trans ?_
  refine (asw_f (by decide)).trans ?_
  refine (asw_f (by decide)).trans ?_
  refine (asw_f (by decide)).trans ?_
  refine (asw_f (by decide)).trans ?_
  refine (asw_f (by decide)).trans ?_
  refine (asw_f (by decide)).trans ?_
  refine (asw_f (by decide)).trans ?_
  refine (asw_f (by decide)).trans ?_
  refine (asw_f (by decide)).trans ?_
  refine (asw_f (by decide)).trans ?_
  refine (asw_f (by decide)).trans ?_
  refine (asw_f (by decide)).trans ?_
  refine (asw_f (by decide)).trans ?_
  refine (asw_f (by decide)).trans ?_
  refine (asw_f (by decide)).trans ?_
  refine (asw_f (by decide)).trans ?_
  refine (asw_f (by decide)).trans ?_
  refine (asw_f (by decide)).trans ?_
  refine (asw_f (by decide)).trans ?_
  refine (asw_f (by decide)).trans ?_
  refine (asw_f (by decide)).trans ?_
  refine (asw_f (by decide)).trans ?_
  refine (asw_f (by decide)).trans ?_
  refine (asw_f (by decide)).trans ?_
  refine (asw_f (by decide)).trans ?_
  refine (asw_f (by decide)).trans ?_
  refine (asw_d).trans ?_
  refine (r_iinc (v := 6) (L' := [some (.retAddr 1), some (.ref 0), some (.ref 72), some (.int 6)]) f333_2076 rfl rfl rfl).trans ?_
  refine (r_goto f333_2079).trans ?_
  refine (r_iloadn f333_18 rfl).trans ?_
  refine (r_aloadnX f333_19 rfl).trans ?_
  refine (r_xlen (v := 6) f333_20 hX rfl).trans ?_
  refine (r_bipush (v := 6) f333_21 rfl).trans ?_
  refine (r_isub (v := 0) f333_23 (by decide)).trans ?_
  refine (r_icmp_gt_t f333_24 (by decide)).trans ?_
  refine (r_iconst (v := 1) f333_2082 rfl).trans ?_
  exact r_zreturn f333_2083 rfl (by decide)
set_option maxRecDepth 20000 in
theorem lc_60 {X : aX} {xs : Nat → Int32} (hX : X 1 = some (6, xs)) (hk : xs 0 &&& 63 = 60) : ∃ h2 : aH, (∀ n d : Nat, arun X (n + 1002000) (d + 30) zM333 18 [some (.retAddr 1), some (.ref 0), some (.ref 72), some (.int 0)] [] zH0 = some (some (.int 1), h2)) ∧ h2.1.length ≤ 600000 ∧ h2.2 ≤ 7302250 := by
  refine ⟨zH0, fun n d => ?_, by rw [zH0_len]; decide, by decide⟩
  refine (r_iloadn f333_18 rfl).trans ?_
  refine (r_aloadnX f333_19 rfl).trans ?_
  refine (r_xlen (v := 6) f333_20 hX rfl).trans ?_
  refine (r_bipush (v := 6) f333_21 rfl).trans ?_
  refine (r_isub (v := 0) f333_23 (by decide)).trans ?_
  refine (r_icmp_gt_f f333_24 (by decide)).trans ?_
  refine (r_aloadnX f333_27 rfl).trans ?_
  refine (r_iloadn f333_28 rfl).trans ?_
  refine (r_xld (v := (xs 0)) f333_29 hX (by decide) rfl).trans ?_
  refine (r_bipush (v := 63) f333_30 rfl).trans ?_
  refine (r_iand (v := 60) f333_32 hk).trans ?_
  refine (r_tsw f333_33).trans ?_
  refine (asw_f (by decide)).trans ?_
  refine (asw_f (by decide)).trans ?_
  refine (asw_f (by decide)).trans ?_
  refine (asw_f (by decide)).trans ?_
  refine (asw_f (by decide)).trans ?_
  refine (asw_f (by decide)).trans ?_
  refine (asw_f (by decide)).trans ?_
  refine (asw_f (by decide)).trans ?_
  refine (asw_f (by decide)).trans ?_
  refine (asw_f (by decide)).trans ?_
  refine (asw_f (by decide)).trans ?_
  refine (asw_f (by decide)).trans ?_
  refine (asw_f (by decide)).trans ?_
  refine (asw_f (by decide)).trans ?_
  refine (asw_f (by decide)).trans ?_
  refine (asw_f (by decide)).trans ?_
  refine (asw_f (by decide)).trans ?_
  refine (asw_f (by decide)).trans ?_
  refine (asw_f (by decide)).trans ?_
  refine (asw_f (by decide)).trans ?_
  refine (asw_f (by decide)).trans ?_
  refine (asw_f (by decide)).trans ?_
  refine (asw_f (by decide)).trans ?_
  refine (asw_f (by decide)).trans ?_
  refine (asw_f (by decide)).trans ?_
  refine (asw_f (by decide)).trans ?_
  refine (asw_f (by decide)).trans ?_
  refine (asw_f (by decide)).trans ?_
  refine (asw_f (by decide)).trans ?_
  refine (asw_f (by decide)).trans ?_
  refine (asw_f (by decide)).trans ?_
  refine (asw_f (by decide)).trans ?_
  refine (asw_f (by decide)).trans ?_
  refine (asw_f (by decide)).trans ?_
  refine (asw_f (by decide)).trans ?_
  refine (asw_f (by decide)).trans ?_
  refine (asw_f (by decide)).trans ?_
  refine (asw_f (by decide)).trans ?_
  refine (asw_f (by decide)).trans ?_
  refine (asw_f (by decide)).trans ?_
  refine (asw_f (by decide)).trans ?_
  refine (asw_f (by decide)).trans ?_
  refine (asw_f (by decide)).trans ?_
  refine (asw_f (by decide)).trans ?_
  refine (asw_f (by decide)).trans ?_
  refine (asw_f (by decide)).trans ?_
  refine (asw_f (by decide)).trans ?_
  refine (asw_f (by decide)).trans ?_
  refine (asw_f (by decide)).trans ?_
  refine (asw_f (by decide)).trans ?_
  refine (asw_f (by decide)).trans ?_
  refine (asw_d).trans ?_
  refine (r_iinc (v := 6) (L' := [some (.retAddr 1), some (.ref 0), some (.ref 72), some (.int 6)]) f333_2076 rfl rfl rfl).trans ?_
  refine (r_goto f333_2079).trans ?_
  refine (r_iloadn f333_18 rfl).trans ?_
  refine (r_aloadnX f333_19 rfl).trans ?_
  refine (r_xlen (v := 6) f333_20 hX rfl).trans ?_
  refine (r_bipush (v := 6) f333_21 rfl).trans ?_
  refine (r_isub (v := 0) f333_23 (by decide)).trans ?_
  refine (r_icmp_gt_t f333_24 (by decide)).trans ?_
  refine (r_iconst (v := 1) f333_2082 rfl).trans ?_
  exact r_zreturn f333_2083 rfl (by decide)
set_option maxRecDepth 20000 in
theorem lc_61 {X : aX} {xs : Nat → Int32} (hX : X 1 = some (6, xs)) (hk : xs 0 &&& 63 = 61) : ∃ h2 : aH, (∀ n d : Nat, arun X (n + 1002000) (d + 30) zM333 18 [some (.retAddr 1), some (.ref 0), some (.ref 72), some (.int 0)] [] zH0 = some (some (.int 1), h2)) ∧ h2.1.length ≤ 600000 ∧ h2.2 ≤ 7302250 := by
  refine ⟨zH0, fun n d => ?_, by rw [zH0_len]; decide, by decide⟩
  refine (r_iloadn f333_18 rfl).trans ?_
  refine (r_aloadnX f333_19 rfl).trans ?_
  refine (r_xlen (v := 6) f333_20 hX rfl).trans ?_
  refine (r_bipush (v := 6) f333_21 rfl).trans ?_
  refine (r_isub (v := 0) f333_23 (by decide)).trans ?_
  refine (r_icmp_gt_f f333_24 (by decide)).trans ?_
  refine (r_aloadnX f333_27 rfl).trans ?_
  refine (r_iloadn f333_28 rfl).trans ?_
  refine (r_xld (v := (xs 0)) f333_29 hX (by decide) rfl).trans ?_
  refine (r_bipush (v := 63) f333_30 rfl).trans ?_
  refine (r_iand (v := 61) f333_32 hk).trans ?_
  refine (r_tsw f333_33).trans ?_
  refine (asw_f (by decide)).trans ?_
  refine (asw_f (by decide)).trans ?_
  refine (asw_f (by decide)).trans ?_
  refine (asw_f (by decide)).trans ?_
  refine (asw_f (by decide)).trans ?_
  refine (asw_f (by decide)).trans ?_
  refine (asw_f (by decide)).trans ?_
  refine (asw_f (by decide)).trans ?_
  refine (asw_f (by decide)).trans ?_
  refine (asw_f (by decide)).trans ?_
  refine (asw_f (by decide)).trans ?_
  refine (asw_f (by decide)).trans ?_
  refine (asw_f (by decide)).trans ?_
  refine (asw_f (by decide)).trans ?_
  refine (asw_f (by decide)).trans ?_
  refine (asw_f (by decide)).trans ?_
  refine (asw_f (by decide)).trans ?_
  refine (asw_f (by decide)).trans ?_
  refine (asw_f (by decide)).trans ?_
  refine (asw_f (by decide)).trans ?_
  refine (asw_f (by decide)).trans ?_
  refine (asw_f (by decide)).trans ?_
  refine (asw_f (by decide)).trans ?_
  refine (asw_f (by decide)).trans ?_
  refine (asw_f (by decide)).trans ?_
  refine (asw_f (by decide)).trans ?_
  refine (asw_f (by decide)).trans ?_
  refine (asw_f (by decide)).trans ?_
  refine (asw_f (by decide)).trans ?_
  refine (asw_f (by decide)).trans ?_
  refine (asw_f (by decide)).trans ?_
  refine (asw_f (by decide)).trans ?_
  refine (asw_f (by decide)).trans ?_
  refine (asw_f (by decide)).trans ?_
  refine (asw_f (by decide)).trans ?_
  refine (asw_f (by decide)).trans ?_
  refine (asw_f (by decide)).trans ?_
  refine (asw_f (by decide)).trans ?_
  refine (asw_f (by decide)).trans ?_
  refine (asw_f (by decide)).trans ?_
  refine (asw_f (by decide)).trans ?_
  refine (asw_f (by decide)).trans ?_
  refine (asw_f (by decide)).trans ?_
  refine (asw_f (by decide)).trans ?_
  refine (asw_f (by decide)).trans ?_
  refine (asw_f (by decide)).trans ?_
  refine (asw_f (by decide)).trans ?_
  refine (asw_f (by decide)).trans ?_
  refine (asw_f (by decide)).trans ?_
  refine (asw_f (by decide)).trans ?_
  refine (asw_f (by decide)).trans ?_
  refine (asw_d).trans ?_
  refine (r_iinc (v := 6) (L' := [some (.retAddr 1), some (.ref 0), some (.ref 72), some (.int 6)]) f333_2076 rfl rfl rfl).trans ?_
  refine (r_goto f333_2079).trans ?_
  refine (r_iloadn f333_18 rfl).trans ?_
  refine (r_aloadnX f333_19 rfl).trans ?_
  refine (r_xlen (v := 6) f333_20 hX rfl).trans ?_
  refine (r_bipush (v := 6) f333_21 rfl).trans ?_
  refine (r_isub (v := 0) f333_23 (by decide)).trans ?_
  refine (r_icmp_gt_t f333_24 (by decide)).trans ?_
  refine (r_iconst (v := 1) f333_2082 rfl).trans ?_
  exact r_zreturn f333_2083 rfl (by decide)
set_option maxRecDepth 20000 in
theorem lc_62 {X : aX} {xs : Nat → Int32} (hX : X 1 = some (6, xs)) (hk : xs 0 &&& 63 = 62) : ∃ h2 : aH, (∀ n d : Nat, arun X (n + 1002000) (d + 30) zM333 18 [some (.retAddr 1), some (.ref 0), some (.ref 72), some (.int 0)] [] zH0 = some (some (.int 1), h2)) ∧ h2.1.length ≤ 600000 ∧ h2.2 ≤ 7302250 := by
  refine ⟨zH0, fun n d => ?_, by rw [zH0_len]; decide, by decide⟩
  refine (r_iloadn f333_18 rfl).trans ?_
  refine (r_aloadnX f333_19 rfl).trans ?_
  refine (r_xlen (v := 6) f333_20 hX rfl).trans ?_
  refine (r_bipush (v := 6) f333_21 rfl).trans ?_
  refine (r_isub (v := 0) f333_23 (by decide)).trans ?_
  refine (r_icmp_gt_f f333_24 (by decide)).trans ?_
  refine (r_aloadnX f333_27 rfl).trans ?_
  refine (r_iloadn f333_28 rfl).trans ?_
  refine (r_xld (v := (xs 0)) f333_29 hX (by decide) rfl).trans ?_
  refine (r_bipush (v := 63) f333_30 rfl).trans ?_
  refine (r_iand (v := 62) f333_32 hk).trans ?_
  refine (r_tsw f333_33).trans ?_
  refine (asw_f (by decide)).trans ?_
  refine (asw_f (by decide)).trans ?_
  refine (asw_f (by decide)).trans ?_
  refine (asw_f (by decide)).trans ?_
  refine (asw_f (by decide)).trans ?_
  refine (asw_f (by decide)).trans ?_
  refine (asw_f (by decide)).trans ?_
  refine (asw_f (by decide)).trans ?_
  refine (asw_f (by decide)).trans ?_
  refine (asw_f (by decide)).trans ?_
  refine (asw_f (by decide)).trans ?_
  refine (asw_f (by decide)).trans ?_
  refine (asw_f (by decide)).trans ?_
  refine (asw_f (by decide)).trans ?_
  refine (asw_f (by decide)).trans ?_
  refine (asw_f (by decide)).trans ?_
  refine (asw_f (by decide)).trans ?_
  refine (asw_f (by decide)).trans ?_
  refine (asw_f (by decide)).trans ?_
  refine (asw_f (by decide)).trans ?_
  refine (asw_f (by decide)).trans ?_
  refine (asw_f (by decide)).trans ?_
  refine (asw_f (by decide)).trans ?_
  refine (asw_f (by decide)).trans ?_
  refine (asw_f (by decide)).trans ?_
  refine (asw_f (by decide)).trans ?_
  refine (asw_f (by decide)).trans ?_
  refine (asw_f (by decide)).trans ?_
  refine (asw_f (by decide)).trans ?_
  refine (asw_f (by decide)).trans ?_
  refine (asw_f (by decide)).trans ?_
  refine (asw_f (by decide)).trans ?_
  refine (asw_f (by decide)).trans ?_
  refine (asw_f (by decide)).trans ?_
  refine (asw_f (by decide)).trans ?_
  refine (asw_f (by decide)).trans ?_
  refine (asw_f (by decide)).trans ?_
  refine (asw_f (by decide)).trans ?_
  refine (asw_f (by decide)).trans ?_
  refine (asw_f (by decide)).trans ?_
  refine (asw_f (by decide)).trans ?_
  refine (asw_f (by decide)).trans ?_
  refine (asw_f (by decide)).trans ?_
  refine (asw_f (by decide)).trans ?_
  refine (asw_f (by decide)).trans ?_
  refine (asw_f (by decide)).trans ?_
  refine (asw_f (by decide)).trans ?_
  refine (asw_f (by decide)).trans ?_
  refine (asw_f (by decide)).trans ?_
  refine (asw_f (by decide)).trans ?_
  refine (asw_f (by decide)).trans ?_
  refine (asw_d).trans ?_
  refine (r_iinc (v := 6) (L' := [some (.retAddr 1), some (.ref 0), some (.ref 72), some (.int 6)]) f333_2076 rfl rfl rfl).trans ?_
  refine (r_goto f333_2079).trans ?_
  refine (r_iloadn f333_18 rfl).trans ?_
  refine (r_aloadnX f333_19 rfl).trans ?_
  refine (r_xlen (v := 6) f333_20 hX rfl).trans ?_
  refine (r_bipush (v := 6) f333_21 rfl).trans ?_
  refine (r_isub (v := 0) f333_23 (by decide)).trans ?_
  refine (r_icmp_gt_t f333_24 (by decide)).trans ?_
  refine (r_iconst (v := 1) f333_2082 rfl).trans ?_
  exact r_zreturn f333_2083 rfl (by decide)
set_option maxRecDepth 20000 in
theorem lc_63 {X : aX} {xs : Nat → Int32} (hX : X 1 = some (6, xs)) (hk : xs 0 &&& 63 = 63) : ∃ h2 : aH, (∀ n d : Nat, arun X (n + 1002000) (d + 30) zM333 18 [some (.retAddr 1), some (.ref 0), some (.ref 72), some (.int 0)] [] zH0 = some (some (.int 1), h2)) ∧ h2.1.length ≤ 600000 ∧ h2.2 ≤ 7302250 := by
  refine ⟨zH0, fun n d => ?_, by rw [zH0_len]; decide, by decide⟩
  refine (r_iloadn f333_18 rfl).trans ?_
  refine (r_aloadnX f333_19 rfl).trans ?_
  refine (r_xlen (v := 6) f333_20 hX rfl).trans ?_
  refine (r_bipush (v := 6) f333_21 rfl).trans ?_
  refine (r_isub (v := 0) f333_23 (by decide)).trans ?_
  refine (r_icmp_gt_f f333_24 (by decide)).trans ?_
  refine (r_aloadnX f333_27 rfl).trans ?_
  refine (r_iloadn f333_28 rfl).trans ?_
  refine (r_xld (v := (xs 0)) f333_29 hX (by decide) rfl).trans ?_
  refine (r_bipush (v := 63) f333_30 rfl).trans ?_
  refine (r_iand (v := 63) f333_32 hk).trans ?_
  refine (r_tsw f333_33).trans ?_
  refine (asw_f (by decide)).trans ?_
  refine (asw_f (by decide)).trans ?_
  refine (asw_f (by decide)).trans ?_
  refine (asw_f (by decide)).trans ?_
  refine (asw_f (by decide)).trans ?_
  refine (asw_f (by decide)).trans ?_
  refine (asw_f (by decide)).trans ?_
  refine (asw_f (by decide)).trans ?_
  refine (asw_f (by decide)).trans ?_
  refine (asw_f (by decide)).trans ?_
  refine (asw_f (by decide)).trans ?_
  refine (asw_f (by decide)).trans ?_
  refine (asw_f (by decide)).trans ?_
  refine (asw_f (by decide)).trans ?_
  refine (asw_f (by decide)).trans ?_
  refine (asw_f (by decide)).trans ?_
  refine (asw_f (by decide)).trans ?_
  refine (asw_f (by decide)).trans ?_
  refine (asw_f (by decide)).trans ?_
  refine (asw_f (by decide)).trans ?_
  refine (asw_f (by decide)).trans ?_
  refine (asw_f (by decide)).trans ?_
  refine (asw_f (by decide)).trans ?_
  refine (asw_f (by decide)).trans ?_
  refine (asw_f (by decide)).trans ?_
  refine (asw_f (by decide)).trans ?_
  refine (asw_f (by decide)).trans ?_
  refine (asw_f (by decide)).trans ?_
  refine (asw_f (by decide)).trans ?_
  refine (asw_f (by decide)).trans ?_
  refine (asw_f (by decide)).trans ?_
  refine (asw_f (by decide)).trans ?_
  refine (asw_f (by decide)).trans ?_
  refine (asw_f (by decide)).trans ?_
  refine (asw_f (by decide)).trans ?_
  refine (asw_f (by decide)).trans ?_
  refine (asw_f (by decide)).trans ?_
  refine (asw_f (by decide)).trans ?_
  refine (asw_f (by decide)).trans ?_
  refine (asw_f (by decide)).trans ?_
  refine (asw_f (by decide)).trans ?_
  refine (asw_f (by decide)).trans ?_
  refine (asw_f (by decide)).trans ?_
  refine (asw_f (by decide)).trans ?_
  refine (asw_f (by decide)).trans ?_
  refine (asw_f (by decide)).trans ?_
  refine (asw_f (by decide)).trans ?_
  refine (asw_f (by decide)).trans ?_
  refine (asw_f (by decide)).trans ?_
  refine (asw_f (by decide)).trans ?_
  refine (asw_f (by decide)).trans ?_
  refine (asw_d).trans ?_
  refine (r_iinc (v := 6) (L' := [some (.retAddr 1), some (.ref 0), some (.ref 72), some (.int 6)]) f333_2076 rfl rfl rfl).trans ?_
  refine (r_goto f333_2079).trans ?_
  refine (r_iloadn f333_18 rfl).trans ?_
  refine (r_aloadnX f333_19 rfl).trans ?_
  refine (r_xlen (v := 6) f333_20 hX rfl).trans ?_
  refine (r_bipush (v := 6) f333_21 rfl).trans ?_
  refine (r_isub (v := 0) f333_23 (by decide)).trans ?_
  refine (r_icmp_gt_t f333_24 (by decide)).trans ?_
  refine (r_iconst (v := 1) f333_2082 rfl).trans ?_
  exact r_zreturn f333_2083 rfl (by decide)
theorem ls_0 {X : aX} {xs : Nat → Int32} (hX : X 1 = some (0, xs)) : ∀ n d : Nat, arun X (n + 1002000) (d + 30) zM333 18 [some (.retAddr 1), some (.ref 0), some (.ref 72), some (.int 0)] [] zH0 = some (some (.int 1), zH0) := by
  intro n d
  refine (r_iloadn f333_18 rfl).trans ?_
  refine (r_aloadnX f333_19 rfl).trans ?_
  refine (r_xlen (v := 0) f333_20 hX rfl).trans ?_
  refine (r_bipush (v := 6) f333_21 rfl).trans ?_
  refine (r_isub (v := (-6)) f333_23 (by decide)).trans ?_
  refine (r_icmp_gt_t f333_24 (by decide)).trans ?_
  refine (r_iconst (v := 1) f333_2082 rfl).trans ?_
  exact r_zreturn f333_2083 rfl (by decide)
theorem ls_1 {X : aX} {xs : Nat → Int32} (hX : X 1 = some (1, xs)) : ∀ n d : Nat, arun X (n + 1002000) (d + 30) zM333 18 [some (.retAddr 1), some (.ref 0), some (.ref 72), some (.int 0)] [] zH0 = some (some (.int 1), zH0) := by
  intro n d
  refine (r_iloadn f333_18 rfl).trans ?_
  refine (r_aloadnX f333_19 rfl).trans ?_
  refine (r_xlen (v := 1) f333_20 hX rfl).trans ?_
  refine (r_bipush (v := 6) f333_21 rfl).trans ?_
  refine (r_isub (v := (-5)) f333_23 (by decide)).trans ?_
  refine (r_icmp_gt_t f333_24 (by decide)).trans ?_
  refine (r_iconst (v := 1) f333_2082 rfl).trans ?_
  exact r_zreturn f333_2083 rfl (by decide)
theorem ls_2 {X : aX} {xs : Nat → Int32} (hX : X 1 = some (2, xs)) : ∀ n d : Nat, arun X (n + 1002000) (d + 30) zM333 18 [some (.retAddr 1), some (.ref 0), some (.ref 72), some (.int 0)] [] zH0 = some (some (.int 1), zH0) := by
  intro n d
  refine (r_iloadn f333_18 rfl).trans ?_
  refine (r_aloadnX f333_19 rfl).trans ?_
  refine (r_xlen (v := 2) f333_20 hX rfl).trans ?_
  refine (r_bipush (v := 6) f333_21 rfl).trans ?_
  refine (r_isub (v := (-4)) f333_23 (by decide)).trans ?_
  refine (r_icmp_gt_t f333_24 (by decide)).trans ?_
  refine (r_iconst (v := 1) f333_2082 rfl).trans ?_
  exact r_zreturn f333_2083 rfl (by decide)
theorem ls_3 {X : aX} {xs : Nat → Int32} (hX : X 1 = some (3, xs)) : ∀ n d : Nat, arun X (n + 1002000) (d + 30) zM333 18 [some (.retAddr 1), some (.ref 0), some (.ref 72), some (.int 0)] [] zH0 = some (some (.int 1), zH0) := by
  intro n d
  refine (r_iloadn f333_18 rfl).trans ?_
  refine (r_aloadnX f333_19 rfl).trans ?_
  refine (r_xlen (v := 3) f333_20 hX rfl).trans ?_
  refine (r_bipush (v := 6) f333_21 rfl).trans ?_
  refine (r_isub (v := (-3)) f333_23 (by decide)).trans ?_
  refine (r_icmp_gt_t f333_24 (by decide)).trans ?_
  refine (r_iconst (v := 1) f333_2082 rfl).trans ?_
  exact r_zreturn f333_2083 rfl (by decide)
theorem ls_4 {X : aX} {xs : Nat → Int32} (hX : X 1 = some (4, xs)) : ∀ n d : Nat, arun X (n + 1002000) (d + 30) zM333 18 [some (.retAddr 1), some (.ref 0), some (.ref 72), some (.int 0)] [] zH0 = some (some (.int 1), zH0) := by
  intro n d
  refine (r_iloadn f333_18 rfl).trans ?_
  refine (r_aloadnX f333_19 rfl).trans ?_
  refine (r_xlen (v := 4) f333_20 hX rfl).trans ?_
  refine (r_bipush (v := 6) f333_21 rfl).trans ?_
  refine (r_isub (v := (-2)) f333_23 (by decide)).trans ?_
  refine (r_icmp_gt_t f333_24 (by decide)).trans ?_
  refine (r_iconst (v := 1) f333_2082 rfl).trans ?_
  exact r_zreturn f333_2083 rfl (by decide)
theorem ls_5 {X : aX} {xs : Nat → Int32} (hX : X 1 = some (5, xs)) : ∀ n d : Nat, arun X (n + 1002000) (d + 30) zM333 18 [some (.retAddr 1), some (.ref 0), some (.ref 72), some (.int 0)] [] zH0 = some (some (.int 1), zH0) := by
  intro n d
  refine (r_iloadn f333_18 rfl).trans ?_
  refine (r_aloadnX f333_19 rfl).trans ?_
  refine (r_xlen (v := 5) f333_20 hX rfl).trans ?_
  refine (r_bipush (v := 6) f333_21 rfl).trans ?_
  refine (r_isub (v := (-1)) f333_23 (by decide)).trans ?_
  refine (r_icmp_gt_t f333_24 (by decide)).trans ?_
  refine (r_iconst (v := 1) f333_2082 rfl).trans ?_
  exact r_zreturn f333_2083 rfl (by decide)

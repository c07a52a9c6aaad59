-- ===== what a text says =====
theorem d267_0 {n : Nat} {X : aX} {h : aH} {P : Int → aH → Prop} {x0 x1 x2 : Int32} {a0 a1 a2 : Int} (S : wS h) (z0 : x0.toInt = a0) (z1 : x1.toInt = a1) (z2 : x2.toInt = a2) (H : ((a0 = 37 → ((a2 = 0 → P 0 h) ∧ (a2 ≠ 0 → ((a2 ≠ (-1) → P (iRem a1 a2) h) ∧ (a2 = (-1) → P 0 h))))) ∧ (a0 ≠ 37 → ((a0 = 38 → ((a1 = 0 → P 0 h) ∧ (a1 ≠ 0 → ((a2 = 0 → P 0 h) ∧ (a2 ≠ 0 → P 1 h))))) ∧ (a0 ≠ 38 → ((a0 = 39 → ((a1 ≠ 0 → P 1 h) ∧ (a1 = 0 → ((a2 = 0 → P 0 h) ∧ (a2 ≠ 0 → P 1 h))))) ∧ (a0 ≠ 39 → ((a0 = 40 → ((a1 ≠ 0 → P 1 h) ∧ (a1 = 0 → ((a2 = 0 → P 0 h) ∧ (a2 ≠ 0 → P 1 h))))) ∧ (a0 ≠ 40 → ((a0 = 41 → ((a1 ≠ 0 → P 1 h) ∧ (a1 = 0 → ((a2 = 0 → P 0 h) ∧ (a2 ≠ 0 → P 1 h))))) ∧ (a0 ≠ 41 → ((a0 = 42 → P (w32 (a1 * a2)) h) ∧ (a0 ≠ 42 → ((a0 = 43 → P (w32 (a1 + a2)) h) ∧ (a0 ≠ 43 → ((a0 = 44 → ((a1 ≠ 0 → P 1 h) ∧ (a1 = 0 → ((a2 = 0 → P 0 h) ∧ (a2 ≠ 0 → P 1 h))))) ∧ (a0 ≠ 44 → ((a0 = 45 → P (w32 (a1 - a2)) h) ∧ (a0 ≠ 45 → ((a0 = 46 → ((a1 ≠ 0 → P 1 h) ∧ (a1 = 0 → ((a2 = 0 → P 0 h) ∧ (a2 ≠ 0 → P 1 h))))) ∧ (a0 ≠ 46 → ((a0 = 47 → ((a2 ≠ 0 → ((a2 ≠ (-1) → P (iDiv a1 a2) h) ∧ (a2 = (-1) → P (w32 (-a1)) h))) ∧ (a2 = 0 → P 0 h))) ∧ (a0 ≠ 47 → ((a0 = 48 → ((a1 ≠ 0 → P 1 h) ∧ (a1 = 0 → ((a2 = 0 → P 0 h) ∧ (a2 ≠ 0 → P 1 h))))) ∧ (a0 ≠ 48 → ((a0 = 49 → ((a1 ≠ 0 → P 1 h) ∧ (a1 = 0 → ((a2 = 0 → P 0 h) ∧ (a2 ≠ 0 → P 1 h))))) ∧ (a0 ≠ 49 → ((a0 = 50 → ((a1 ≠ 0 → P 1 h) ∧ (a1 = 0 → ((a2 = 0 → P 0 h) ∧ (a2 ≠ 0 → P 1 h))))) ∧ (a0 ≠ 50 → ((a0 = 51 → ((a1 ≠ 0 → P 1 h) ∧ (a1 = 0 → ((a2 = 0 → P 0 h) ∧ (a2 ≠ 0 → P 1 h))))) ∧ (a0 ≠ 51 → ((a0 = 52 → ((a1 ≠ 0 → P 1 h) ∧ (a1 = 0 → ((a2 = 0 → P 0 h) ∧ (a2 ≠ 0 → P 1 h))))) ∧ (a0 ≠ 52 → ((a0 = 53 → ((a1 ≠ 0 → P 1 h) ∧ (a1 = 0 → ((a2 = 0 → P 0 h) ∧ (a2 ≠ 0 → P 1 h))))) ∧ (a0 ≠ 53 → ((a0 = 54 → ((a1 ≠ 0 → P 1 h) ∧ (a1 = 0 → ((a2 = 0 → P 0 h) ∧ (a2 ≠ 0 → P 1 h))))) ∧ (a0 ≠ 54 → ((a0 = 55 → ((a1 ≠ 0 → P 1 h) ∧ (a1 = 0 → ((a2 = 0 → P 0 h) ∧ (a2 ≠ 0 → P 1 h))))) ∧ (a0 ≠ 55 → ((a0 = 56 → ((a1 ≠ 0 → P 1 h) ∧ (a1 = 0 → ((a2 = 0 → P 0 h) ∧ (a2 ≠ 0 → P 1 h))))) ∧ (a0 ≠ 56 → ((a0 = 57 → ((a1 ≠ 0 → P 1 h) ∧ (a1 = 0 → ((a2 = 0 → P 0 h) ∧ (a2 ≠ 0 → P 1 h))))) ∧ (a0 ≠ 57 → ((a0 = 58 → ((a1 ≠ 0 → P 1 h) ∧ (a1 = 0 → ((a2 = 0 → P 0 h) ∧ (a2 ≠ 0 → P 1 h))))) ∧ (a0 ≠ 58 → ((a0 = 59 → ((a1 ≠ 0 → P 1 h) ∧ (a1 = 0 → ((a2 = 0 → P 0 h) ∧ (a2 ≠ 0 → P 1 h))))) ∧ (a0 ≠ 59 → ((a0 = 60 → ((a2 ≤ a1 → P 0 h) ∧ (a1 < a2 → P 1 h))) ∧ (a0 ≠ 60 → ((a0 = 61 → ((a1 ≠ a2 → P 0 h) ∧ (a1 = a2 → P 1 h))) ∧ (a0 ≠ 61 → ((a0 = 62 → ((a1 ≤ a2 → P 0 h) ∧ (a2 < a1 → P 1 h))) ∧ (a0 ≠ 62 → ((a1 ≠ 0 → P 1 h) ∧ (a1 = 0 → ((a2 = 0 → P 0 h) ∧ (a2 ≠ 0 → P 1 h))))))))))))))))))))))))))))))))))))))))))))))))))))))))) : Pt (n + 1) X zM267 0 [some (.int x0), some (.int x1), some (.int x2)] [] h (qI P) := by
  refine pt_1 (fun n d => r_iloadn gx267_0 rfl) ?_
  refine pt_d (pt_tsw gx267_1 ?_)
  refine pa_c (lo := 37) (lo' := 38) (p := 154) z0 (fun e1 => ?_) (fun e1 => ?_)
  · have H := H.1 e1
    refine pt_d (pt_1 (fun n d => r_iloadn gx267_154 rfl) ?_)
    refine pt_d (pt_if_eq gx267_155 z2 (fun e2 => ?_) (fun e2 => ?_))
    · have H := H.1 e2
      refine pt_d (pt_iconst gx267_163 (fun v3 h3 => ?_))
      refine pt_d (pt_1 (fun n d => r_goto gx267_164) ?_)
      exact pt_d (pt_iret gx267_170 ⟨_, rfl, by rw [h3]; exact H⟩)
    · have H := H.2 e2
      refine pt_d (pt_1 (fun n d => r_iloadn gx267_158 rfl) ?_)
      refine pt_d (pt_iconst gx267_159 (fun v4 h4 => ?_))
      refine pt_d (pt_icmp_ne gx267_160 z2 h4 (fun e5 => ?_) (fun e5 => ?_))
      · have H := H.1 e5
        refine pt_d (pt_1 (fun n d => r_iloadn gx267_167 rfl) ?_)
        refine pt_d (pt_1 (fun n d => r_iloadn gx267_168 rfl) ?_)
        refine pt_d (pt_irem gx267_169 z1 z2 (fun v6 h6 => ?_))
        exact pt_d (pt_iret gx267_170 ⟨_, rfl, by rw [h6]; exact H⟩)
      · have H := H.2 e5
        refine pt_d (pt_iconst gx267_163 (fun v7 h7 => ?_))
        refine pt_d (pt_1 (fun n d => r_goto gx267_164) ?_)
        exact pt_d (pt_iret gx267_170 ⟨_, rfl, by rw [h7]; exact H⟩)
  have H := H.2 e1
  refine pa_c (lo := 38) (lo' := 39) (p := 204) z0 (fun e8 => ?_) (fun e8 => ?_)
  · have H := H.1 e8
    refine pt_d (pt_1 (fun n d => r_iloadn gx267_204 rfl) ?_)
    refine pt_d (pt_if_eq gx267_205 z1 (fun e9 => ?_) (fun e9 => ?_))
    · have H := H.1 e9
      refine pt_d (pt_iconst gx267_216 (fun v10 h10 => ?_))
      exact pt_d (pt_iret gx267_217 ⟨_, rfl, by rw [h10]; exact H⟩)
    · have H := H.2 e9
      refine pt_d (pt_1 (fun n d => r_iloadn gx267_208 rfl) ?_)
      refine pt_d (pt_if_eq gx267_209 z2 (fun e11 => ?_) (fun e11 => ?_))
      · have H := H.1 e11
        refine pt_d (pt_iconst gx267_216 (fun v12 h12 => ?_))
        exact pt_d (pt_iret gx267_217 ⟨_, rfl, by rw [h12]; exact H⟩)
      · have H := H.2 e11
        refine pt_d (pt_iconst gx267_212 (fun v13 h13 => ?_))
        refine pt_d (pt_1 (fun n d => r_goto gx267_213) ?_)
        exact pt_d (pt_iret gx267_217 ⟨_, rfl, by rw [h13]; exact H⟩)
  have H := H.2 e8
  refine pa_c (lo := 39) (lo' := 40) (p := 218) z0 (fun e14 => ?_) (fun e14 => ?_)
  · have H := H.1 e14
    refine pt_d (pt_1 (fun n d => r_iloadn gx267_218 rfl) ?_)
    refine pt_d (pt_if_ne gx267_219 z1 (fun e15 => ?_) (fun e15 => ?_))
    · have H := H.1 e15
      refine pt_d (pt_iconst gx267_226 (fun v16 h16 => ?_))
      refine pt_d (pt_1 (fun n d => r_goto gx267_227) ?_)
      exact pt_d (pt_iret gx267_231 ⟨_, rfl, by rw [h16]; exact H⟩)
    · have H := H.2 e15
      refine pt_d (pt_1 (fun n d => r_iloadn gx267_222 rfl) ?_)
      refine pt_d (pt_if_eq gx267_223 z2 (fun e17 => ?_) (fun e17 => ?_))
      · have H := H.1 e17
        refine pt_d (pt_iconst gx267_230 (fun v18 h18 => ?_))
        exact pt_d (pt_iret gx267_231 ⟨_, rfl, by rw [h18]; exact H⟩)
      · have H := H.2 e17
        refine pt_d (pt_iconst gx267_226 (fun v19 h19 => ?_))
        refine pt_d (pt_1 (fun n d => r_goto gx267_227) ?_)
        exact pt_d (pt_iret gx267_231 ⟨_, rfl, by rw [h19]; exact H⟩)
  have H := H.2 e14
  refine pa_c (lo := 40) (lo' := 41) (p := 218) z0 (fun e20 => ?_) (fun e20 => ?_)
  · have H := H.1 e20
    refine pt_d (pt_1 (fun n d => r_iloadn gx267_218 rfl) ?_)
    refine pt_d (pt_if_ne gx267_219 z1 (fun e21 => ?_) (fun e21 => ?_))
    · have H := H.1 e21
      refine pt_d (pt_iconst gx267_226 (fun v22 h22 => ?_))
      refine pt_d (pt_1 (fun n d => r_goto gx267_227) ?_)
      exact pt_d (pt_iret gx267_231 ⟨_, rfl, by rw [h22]; exact H⟩)
    · have H := H.2 e21
      refine pt_d (pt_1 (fun n d => r_iloadn gx267_222 rfl) ?_)
      refine pt_d (pt_if_eq gx267_223 z2 (fun e23 => ?_) (fun e23 => ?_))
      · have H := H.1 e23
        refine pt_d (pt_iconst gx267_230 (fun v24 h24 => ?_))
        exact pt_d (pt_iret gx267_231 ⟨_, rfl, by rw [h24]; exact H⟩)
      · have H := H.2 e23
        refine pt_d (pt_iconst gx267_226 (fun v25 h25 => ?_))
        refine pt_d (pt_1 (fun n d => r_goto gx267_227) ?_)
        exact pt_d (pt_iret gx267_231 ⟨_, rfl, by rw [h25]; exact H⟩)
  have H := H.2 e20
  refine pa_c (lo := 41) (lo' := 42) (p := 218) z0 (fun e26 => ?_) (fun e26 => ?_)
  · have H := H.1 e26
    refine pt_d (pt_1 (fun n d => r_iloadn gx267_218 rfl) ?_)
    refine pt_d (pt_if_ne gx267_219 z1 (fun e27 => ?_) (fun e27 => ?_))
    · have H := H.1 e27
      refine pt_d (pt_iconst gx267_226 (fun v28 h28 => ?_))
      refine pt_d (pt_1 (fun n d => r_goto gx267_227) ?_)
      exact pt_d (pt_iret gx267_231 ⟨_, rfl, by rw [h28]; exact H⟩)
    · have H := H.2 e27
      refine pt_d (pt_1 (fun n d => r_iloadn gx267_222 rfl) ?_)
      refine pt_d (pt_if_eq gx267_223 z2 (fun e29 => ?_) (fun e29 => ?_))
      · have H := H.1 e29
        refine pt_d (pt_iconst gx267_230 (fun v30 h30 => ?_))
        exact pt_d (pt_iret gx267_231 ⟨_, rfl, by rw [h30]; exact H⟩)
      · have H := H.2 e29
        refine pt_d (pt_iconst gx267_226 (fun v31 h31 => ?_))
        refine pt_d (pt_1 (fun n d => r_goto gx267_227) ?_)
        exact pt_d (pt_iret gx267_231 ⟨_, rfl, by rw [h31]; exact H⟩)
  have H := H.2 e26
  refine pa_c (lo := 42) (lo' := 43) (p := 128) z0 (fun e32 => ?_) (fun e32 => ?_)
  · have H := H.1 e32
    refine pt_d (pt_1 (fun n d => r_iloadn gx267_128 rfl) ?_)
    refine pt_d (pt_1 (fun n d => r_iloadn gx267_129 rfl) ?_)
    refine pt_d (pt_imul gx267_130 z1 z2 (fun v33 h33 => ?_))
    exact pt_d (pt_iret gx267_131 ⟨_, rfl, by rw [h33]; exact H⟩)
  have H := H.2 e32
  refine pa_c (lo := 43) (lo' := 44) (p := 120) z0 (fun e34 => ?_) (fun e34 => ?_)
  · have H := H.1 e34
    refine pt_d (pt_1 (fun n d => r_iloadn gx267_120 rfl) ?_)
    refine pt_d (pt_1 (fun n d => r_iloadn gx267_121 rfl) ?_)
    refine pt_d (pt_iadd gx267_122 z1 z2 (fun v35 h35 => ?_))
    exact pt_d (pt_iret gx267_123 ⟨_, rfl, by rw [h35]; exact H⟩)
  have H := H.2 e34
  refine pa_c (lo := 44) (lo' := 45) (p := 218) z0 (fun e36 => ?_) (fun e36 => ?_)
  · have H := H.1 e36
    refine pt_d (pt_1 (fun n d => r_iloadn gx267_218 rfl) ?_)
    refine pt_d (pt_if_ne gx267_219 z1 (fun e37 => ?_) (fun e37 => ?_))
    · have H := H.1 e37
      refine pt_d (pt_iconst gx267_226 (fun v38 h38 => ?_))
      refine pt_d (pt_1 (fun n d => r_goto gx267_227) ?_)
      exact pt_d (pt_iret gx267_231 ⟨_, rfl, by rw [h38]; exact H⟩)
    · have H := H.2 e37
      refine pt_d (pt_1 (fun n d => r_iloadn gx267_222 rfl) ?_)
      refine pt_d (pt_if_eq gx267_223 z2 (fun e39 => ?_) (fun e39 => ?_))
      · have H := H.1 e39
        refine pt_d (pt_iconst gx267_230 (fun v40 h40 => ?_))
        exact pt_d (pt_iret gx267_231 ⟨_, rfl, by rw [h40]; exact H⟩)
      · have H := H.2 e39
        refine pt_d (pt_iconst gx267_226 (fun v41 h41 => ?_))
        refine pt_d (pt_1 (fun n d => r_goto gx267_227) ?_)
        exact pt_d (pt_iret gx267_231 ⟨_, rfl, by rw [h41]; exact H⟩)
  have H := H.2 e36
  refine pa_c (lo := 45) (lo' := 46) (p := 124) z0 (fun e42 => ?_) (fun e42 => ?_)
  · have H := H.1 e42
    refine pt_d (pt_1 (fun n d => r_iloadn gx267_124 rfl) ?_)
    refine pt_d (pt_1 (fun n d => r_iloadn gx267_125 rfl) ?_)
    refine pt_d (pt_isub gx267_126 z1 z2 (fun v43 h43 => ?_))
    exact pt_d (pt_iret gx267_127 ⟨_, rfl, by rw [h43]; exact H⟩)
  have H := H.2 e42
  refine pa_c (lo := 46) (lo' := 47) (p := 218) z0 (fun e44 => ?_) (fun e44 => ?_)
  · have H := H.1 e44
    refine pt_d (pt_1 (fun n d => r_iloadn gx267_218 rfl) ?_)
    refine pt_d (pt_if_ne gx267_219 z1 (fun e45 => ?_) (fun e45 => ?_))
    · have H := H.1 e45
      refine pt_d (pt_iconst gx267_226 (fun v46 h46 => ?_))
      refine pt_d (pt_1 (fun n d => r_goto gx267_227) ?_)
      exact pt_d (pt_iret gx267_231 ⟨_, rfl, by rw [h46]; exact H⟩)
    · have H := H.2 e45
      refine pt_d (pt_1 (fun n d => r_iloadn gx267_222 rfl) ?_)
      refine pt_d (pt_if_eq gx267_223 z2 (fun e47 => ?_) (fun e47 => ?_))
      · have H := H.1 e47
        refine pt_d (pt_iconst gx267_230 (fun v48 h48 => ?_))
        exact pt_d (pt_iret gx267_231 ⟨_, rfl, by rw [h48]; exact H⟩)
      · have H := H.2 e47
        refine pt_d (pt_iconst gx267_226 (fun v49 h49 => ?_))
        refine pt_d (pt_1 (fun n d => r_goto gx267_227) ?_)
        exact pt_d (pt_iret gx267_231 ⟨_, rfl, by rw [h49]; exact H⟩)
  have H := H.2 e44
  refine pa_c (lo := 47) (lo' := 48) (p := 132) z0 (fun e50 => ?_) (fun e50 => ?_)
  · have H := H.1 e50
    refine pt_d (pt_1 (fun n d => r_iloadn gx267_132 rfl) ?_)
    refine pt_d (pt_if_ne gx267_133 z2 (fun e51 => ?_) (fun e51 => ?_))
    · have H := H.1 e51
      refine pt_d (pt_1 (fun n d => r_iloadn gx267_140 rfl) ?_)
      refine pt_d (pt_iconst gx267_141 (fun v52 h52 => ?_))
      refine pt_d (pt_icmp_ne gx267_142 z2 h52 (fun e53 => ?_) (fun e53 => ?_))
      · have H := H.1 e53
        refine pt_d (pt_1 (fun n d => r_iloadn gx267_150 rfl) ?_)
        refine pt_d (pt_1 (fun n d => r_iloadn gx267_151 rfl) ?_)
        refine pt_d (pt_idiv gx267_152 z1 z2 (fun v54 h54 => ?_))
        exact pt_d (pt_iret gx267_153 ⟨_, rfl, by rw [h54]; exact H⟩)
      · have H := H.2 e53
        refine pt_d (pt_1 (fun n d => r_iloadn gx267_145 rfl) ?_)
        refine pt_d (pt_ineg gx267_146 z1 (fun v55 h55 => ?_))
        refine pt_d (pt_1 (fun n d => r_goto gx267_147) ?_)
        exact pt_d (pt_iret gx267_153 ⟨_, rfl, by rw [h55]; exact H⟩)
    · have H := H.2 e51
      refine pt_d (pt_iconst gx267_136 (fun v56 h56 => ?_))
      refine pt_d (pt_1 (fun n d => r_goto gx267_137) ?_)
      exact pt_d (pt_iret gx267_153 ⟨_, rfl, by rw [h56]; exact H⟩)
  have H := H.2 e50
  refine pa_c (lo := 48) (lo' := 49) (p := 218) z0 (fun e57 => ?_) (fun e57 => ?_)
  · have H := H.1 e57
    refine pt_d (pt_1 (fun n d => r_iloadn gx267_218 rfl) ?_)
    refine pt_d (pt_if_ne gx267_219 z1 (fun e58 => ?_) (fun e58 => ?_))
    · have H := H.1 e58
      refine pt_d (pt_iconst gx267_226 (fun v59 h59 => ?_))
      refine pt_d (pt_1 (fun n d => r_goto gx267_227) ?_)
      exact pt_d (pt_iret gx267_231 ⟨_, rfl, by rw [h59]; exact H⟩)
    · have H := H.2 e58
      refine pt_d (pt_1 (fun n d => r_iloadn gx267_222 rfl) ?_)
      refine pt_d (pt_if_eq gx267_223 z2 (fun e60 => ?_) (fun e60 => ?_))
      · have H := H.1 e60
        refine pt_d (pt_iconst gx267_230 (fun v61 h61 => ?_))
        exact pt_d (pt_iret gx267_231 ⟨_, rfl, by rw [h61]; exact H⟩)
      · have H := H.2 e60
        refine pt_d (pt_iconst gx267_226 (fun v62 h62 => ?_))
        refine pt_d (pt_1 (fun n d => r_goto gx267_227) ?_)
        exact pt_d (pt_iret gx267_231 ⟨_, rfl, by rw [h62]; exact H⟩)
  have H := H.2 e57
  refine pa_c (lo := 49) (lo' := 50) (p := 218) z0 (fun e63 => ?_) (fun e63 => ?_)
  · have H := H.1 e63
    refine pt_d (pt_1 (fun n d => r_iloadn gx267_218 rfl) ?_)
    refine pt_d (pt_if_ne gx267_219 z1 (fun e64 => ?_) (fun e64 => ?_))
    · have H := H.1 e64
      refine pt_d (pt_iconst gx267_226 (fun v65 h65 => ?_))
      refine pt_d (pt_1 (fun n d => r_goto gx267_227) ?_)
      exact pt_d (pt_iret gx267_231 ⟨_, rfl, by rw [h65]; exact H⟩)
    · have H := H.2 e64
      refine pt_d (pt_1 (fun n d => r_iloadn gx267_222 rfl) ?_)
      refine pt_d (pt_if_eq gx267_223 z2 (fun e66 => ?_) (fun e66 => ?_))
      · have H := H.1 e66
        refine pt_d (pt_iconst gx267_230 (fun v67 h67 => ?_))
        exact pt_d (pt_iret gx267_231 ⟨_, rfl, by rw [h67]; exact H⟩)
      · have H := H.2 e66
        refine pt_d (pt_iconst gx267_226 (fun v68 h68 => ?_))
        refine pt_d (pt_1 (fun n d => r_goto gx267_227) ?_)
        exact pt_d (pt_iret gx267_231 ⟨_, rfl, by rw [h68]; exact H⟩)
  have H := H.2 e63
  refine pa_c (lo := 50) (lo' := 51) (p := 218) z0 (fun e69 => ?_) (fun e69 => ?_)
  · have H := H.1 e69
    refine pt_d (pt_1 (fun n d => r_iloadn gx267_218 rfl) ?_)
    refine pt_d (pt_if_ne gx267_219 z1 (fun e70 => ?_) (fun e70 => ?_))
    · have H := H.1 e70
      refine pt_d (pt_iconst gx267_226 (fun v71 h71 => ?_))
      refine pt_d (pt_1 (fun n d => r_goto gx267_227) ?_)
      exact pt_d (pt_iret gx267_231 ⟨_, rfl, by rw [h71]; exact H⟩)
    · have H := H.2 e70
      refine pt_d (pt_1 (fun n d => r_iloadn gx267_222 rfl) ?_)
      refine pt_d (pt_if_eq gx267_223 z2 (fun e72 => ?_) (fun e72 => ?_))
      · have H := H.1 e72
        refine pt_d (pt_iconst gx267_230 (fun v73 h73 => ?_))
        exact pt_d (pt_iret gx267_231 ⟨_, rfl, by rw [h73]; exact H⟩)
      · have H := H.2 e72
        refine pt_d (pt_iconst gx267_226 (fun v74 h74 => ?_))
        refine pt_d (pt_1 (fun n d => r_goto gx267_227) ?_)
        exact pt_d (pt_iret gx267_231 ⟨_, rfl, by rw [h74]; exact H⟩)
  have H := H.2 e69
  refine pa_c (lo := 51) (lo' := 52) (p := 218) z0 (fun e75 => ?_) (fun e75 => ?_)
  · have H := H.1 e75
    refine pt_d (pt_1 (fun n d => r_iloadn gx267_218 rfl) ?_)
    refine pt_d (pt_if_ne gx267_219 z1 (fun e76 => ?_) (fun e76 => ?_))
    · have H := H.1 e76
      refine pt_d (pt_iconst gx267_226 (fun v77 h77 => ?_))
      refine pt_d (pt_1 (fun n d => r_goto gx267_227) ?_)
      exact pt_d (pt_iret gx267_231 ⟨_, rfl, by rw [h77]; exact H⟩)
    · have H := H.2 e76
      refine pt_d (pt_1 (fun n d => r_iloadn gx267_222 rfl) ?_)
      refine pt_d (pt_if_eq gx267_223 z2 (fun e78 => ?_) (fun e78 => ?_))
      · have H := H.1 e78
        refine pt_d (pt_iconst gx267_230 (fun v79 h79 => ?_))
        exact pt_d (pt_iret gx267_231 ⟨_, rfl, by rw [h79]; exact H⟩)
      · have H := H.2 e78
        refine pt_d (pt_iconst gx267_226 (fun v80 h80 => ?_))
        refine pt_d (pt_1 (fun n d => r_goto gx267_227) ?_)
        exact pt_d (pt_iret gx267_231 ⟨_, rfl, by rw [h80]; exact H⟩)
  have H := H.2 e75
  refine pa_c (lo := 52) (lo' := 53) (p := 218) z0 (fun e81 => ?_) (fun e81 => ?_)
  · have H := H.1 e81
    refine pt_d (pt_1 (fun n d => r_iloadn gx267_218 rfl) ?_)
    refine pt_d (pt_if_ne gx267_219 z1 (fun e82 => ?_) (fun e82 => ?_))
    · have H := H.1 e82
      refine pt_d (pt_iconst gx267_226 (fun v83 h83 => ?_))
      refine pt_d (pt_1 (fun n d => r_goto gx267_227) ?_)
      exact pt_d (pt_iret gx267_231 ⟨_, rfl, by rw [h83]; exact H⟩)
    · have H := H.2 e82
      refine pt_d (pt_1 (fun n d => r_iloadn gx267_222 rfl) ?_)
      refine pt_d (pt_if_eq gx267_223 z2 (fun e84 => ?_) (fun e84 => ?_))
      · have H := H.1 e84
        refine pt_d (pt_iconst gx267_230 (fun v85 h85 => ?_))
        exact pt_d (pt_iret gx267_231 ⟨_, rfl, by rw [h85]; exact H⟩)
      · have H := H.2 e84
        refine pt_d (pt_iconst gx267_226 (fun v86 h86 => ?_))
        refine pt_d (pt_1 (fun n d => r_goto gx267_227) ?_)
        exact pt_d (pt_iret gx267_231 ⟨_, rfl, by rw [h86]; exact H⟩)
  have H := H.2 e81
  refine pa_c (lo := 53) (lo' := 54) (p := 218) z0 (fun e87 => ?_) (fun e87 => ?_)
  · have H := H.1 e87
    refine pt_d (pt_1 (fun n d => r_iloadn gx267_218 rfl) ?_)
    refine pt_d (pt_if_ne gx267_219 z1 (fun e88 => ?_) (fun e88 => ?_))
    · have H := H.1 e88
      refine pt_d (pt_iconst gx267_226 (fun v89 h89 => ?_))
      refine pt_d (pt_1 (fun n d => r_goto gx267_227) ?_)
      exact pt_d (pt_iret gx267_231 ⟨_, rfl, by rw [h89]; exact H⟩)
    · have H := H.2 e88
      refine pt_d (pt_1 (fun n d => r_iloadn gx267_222 rfl) ?_)
      refine pt_d (pt_if_eq gx267_223 z2 (fun e90 => ?_) (fun e90 => ?_))
      · have H := H.1 e90
        refine pt_d (pt_iconst gx267_230 (fun v91 h91 => ?_))
        exact pt_d (pt_iret gx267_231 ⟨_, rfl, by rw [h91]; exact H⟩)
      · have H := H.2 e90
        refine pt_d (pt_iconst gx267_226 (fun v92 h92 => ?_))
        refine pt_d (pt_1 (fun n d => r_goto gx267_227) ?_)
        exact pt_d (pt_iret gx267_231 ⟨_, rfl, by rw [h92]; exact H⟩)
  have H := H.2 e87
  refine pa_c (lo := 54) (lo' := 55) (p := 218) z0 (fun e93 => ?_) (fun e93 => ?_)
  · have H := H.1 e93
    refine pt_d (pt_1 (fun n d => r_iloadn gx267_218 rfl) ?_)
    refine pt_d (pt_if_ne gx267_219 z1 (fun e94 => ?_) (fun e94 => ?_))
    · have H := H.1 e94
      refine pt_d (pt_iconst gx267_226 (fun v95 h95 => ?_))
      refine pt_d (pt_1 (fun n d => r_goto gx267_227) ?_)
      exact pt_d (pt_iret gx267_231 ⟨_, rfl, by rw [h95]; exact H⟩)
    · have H := H.2 e94
      refine pt_d (pt_1 (fun n d => r_iloadn gx267_222 rfl) ?_)
      refine pt_d (pt_if_eq gx267_223 z2 (fun e96 => ?_) (fun e96 => ?_))
      · have H := H.1 e96
        refine pt_d (pt_iconst gx267_230 (fun v97 h97 => ?_))
        exact pt_d (pt_iret gx267_231 ⟨_, rfl, by rw [h97]; exact H⟩)
      · have H := H.2 e96
        refine pt_d (pt_iconst gx267_226 (fun v98 h98 => ?_))
        refine pt_d (pt_1 (fun n d => r_goto gx267_227) ?_)
        exact pt_d (pt_iret gx267_231 ⟨_, rfl, by rw [h98]; exact H⟩)
  have H := H.2 e93
  refine pa_c (lo := 55) (lo' := 56) (p := 218) z0 (fun e99 => ?_) (fun e99 => ?_)
  · have H := H.1 e99
    refine pt_d (pt_1 (fun n d => r_iloadn gx267_218 rfl) ?_)
    refine pt_d (pt_if_ne gx267_219 z1 (fun e100 => ?_) (fun e100 => ?_))
    · have H := H.1 e100
      refine pt_d (pt_iconst gx267_226 (fun v101 h101 => ?_))
      refine pt_d (pt_1 (fun n d => r_goto gx267_227) ?_)
      exact pt_d (pt_iret gx267_231 ⟨_, rfl, by rw [h101]; exact H⟩)
    · have H := H.2 e100
      refine pt_d (pt_1 (fun n d => r_iloadn gx267_222 rfl) ?_)
      refine pt_d (pt_if_eq gx267_223 z2 (fun e102 => ?_) (fun e102 => ?_))
      · have H := H.1 e102
        refine pt_d (pt_iconst gx267_230 (fun v103 h103 => ?_))
        exact pt_d (pt_iret gx267_231 ⟨_, rfl, by rw [h103]; exact H⟩)
      · have H := H.2 e102
        refine pt_d (pt_iconst gx267_226 (fun v104 h104 => ?_))
        refine pt_d (pt_1 (fun n d => r_goto gx267_227) ?_)
        exact pt_d (pt_iret gx267_231 ⟨_, rfl, by rw [h104]; exact H⟩)
  have H := H.2 e99
  refine pa_c (lo := 56) (lo' := 57) (p := 218) z0 (fun e105 => ?_) (fun e105 => ?_)
  · have H := H.1 e105
    refine pt_d (pt_1 (fun n d => r_iloadn gx267_218 rfl) ?_)
    refine pt_d (pt_if_ne gx267_219 z1 (fun e106 => ?_) (fun e106 => ?_))
    · have H := H.1 e106
      refine pt_d (pt_iconst gx267_226 (fun v107 h107 => ?_))
      refine pt_d (pt_1 (fun n d => r_goto gx267_227) ?_)
      exact pt_d (pt_iret gx267_231 ⟨_, rfl, by rw [h107]; exact H⟩)
    · have H := H.2 e106
      refine pt_d (pt_1 (fun n d => r_iloadn gx267_222 rfl) ?_)
      refine pt_d (pt_if_eq gx267_223 z2 (fun e108 => ?_) (fun e108 => ?_))
      · have H := H.1 e108
        refine pt_d (pt_iconst gx267_230 (fun v109 h109 => ?_))
        exact pt_d (pt_iret gx267_231 ⟨_, rfl, by rw [h109]; exact H⟩)
      · have H := H.2 e108
        refine pt_d (pt_iconst gx267_226 (fun v110 h110 => ?_))
        refine pt_d (pt_1 (fun n d => r_goto gx267_227) ?_)
        exact pt_d (pt_iret gx267_231 ⟨_, rfl, by rw [h110]; exact H⟩)
  have H := H.2 e105
  refine pa_c (lo := 57) (lo' := 58) (p := 218) z0 (fun e111 => ?_) (fun e111 => ?_)
  · have H := H.1 e111
    refine pt_d (pt_1 (fun n d => r_iloadn gx267_218 rfl) ?_)
    refine pt_d (pt_if_ne gx267_219 z1 (fun e112 => ?_) (fun e112 => ?_))
    · have H := H.1 e112
      refine pt_d (pt_iconst gx267_226 (fun v113 h113 => ?_))
      refine pt_d (pt_1 (fun n d => r_goto gx267_227) ?_)
      exact pt_d (pt_iret gx267_231 ⟨_, rfl, by rw [h113]; exact H⟩)
    · have H := H.2 e112
      refine pt_d (pt_1 (fun n d => r_iloadn gx267_222 rfl) ?_)
      refine pt_d (pt_if_eq gx267_223 z2 (fun e114 => ?_) (fun e114 => ?_))
      · have H := H.1 e114
        refine pt_d (pt_iconst gx267_230 (fun v115 h115 => ?_))
        exact pt_d (pt_iret gx267_231 ⟨_, rfl, by rw [h115]; exact H⟩)
      · have H := H.2 e114
        refine pt_d (pt_iconst gx267_226 (fun v116 h116 => ?_))
        refine pt_d (pt_1 (fun n d => r_goto gx267_227) ?_)
        exact pt_d (pt_iret gx267_231 ⟨_, rfl, by rw [h116]; exact H⟩)
  have H := H.2 e111
  refine pa_c (lo := 58) (lo' := 59) (p := 218) z0 (fun e117 => ?_) (fun e117 => ?_)
  · have H := H.1 e117
    refine pt_d (pt_1 (fun n d => r_iloadn gx267_218 rfl) ?_)
    refine pt_d (pt_if_ne gx267_219 z1 (fun e118 => ?_) (fun e118 => ?_))
    · have H := H.1 e118
      refine pt_d (pt_iconst gx267_226 (fun v119 h119 => ?_))
      refine pt_d (pt_1 (fun n d => r_goto gx267_227) ?_)
      exact pt_d (pt_iret gx267_231 ⟨_, rfl, by rw [h119]; exact H⟩)
    · have H := H.2 e118
      refine pt_d (pt_1 (fun n d => r_iloadn gx267_222 rfl) ?_)
      refine pt_d (pt_if_eq gx267_223 z2 (fun e120 => ?_) (fun e120 => ?_))
      · have H := H.1 e120
        refine pt_d (pt_iconst gx267_230 (fun v121 h121 => ?_))
        exact pt_d (pt_iret gx267_231 ⟨_, rfl, by rw [h121]; exact H⟩)
      · have H := H.2 e120
        refine pt_d (pt_iconst gx267_226 (fun v122 h122 => ?_))
        refine pt_d (pt_1 (fun n d => r_goto gx267_227) ?_)
        exact pt_d (pt_iret gx267_231 ⟨_, rfl, by rw [h122]; exact H⟩)
  have H := H.2 e117
  refine pa_c (lo := 59) (lo' := 60) (p := 218) z0 (fun e123 => ?_) (fun e123 => ?_)
  · have H := H.1 e123
    refine pt_d (pt_1 (fun n d => r_iloadn gx267_218 rfl) ?_)
    refine pt_d (pt_if_ne gx267_219 z1 (fun e124 => ?_) (fun e124 => ?_))
    · have H := H.1 e124
      refine pt_d (pt_iconst gx267_226 (fun v125 h125 => ?_))
      refine pt_d (pt_1 (fun n d => r_goto gx267_227) ?_)
      exact pt_d (pt_iret gx267_231 ⟨_, rfl, by rw [h125]; exact H⟩)
    · have H := H.2 e124
      refine pt_d (pt_1 (fun n d => r_iloadn gx267_222 rfl) ?_)
      refine pt_d (pt_if_eq gx267_223 z2 (fun e126 => ?_) (fun e126 => ?_))
      · have H := H.1 e126
        refine pt_d (pt_iconst gx267_230 (fun v127 h127 => ?_))
        exact pt_d (pt_iret gx267_231 ⟨_, rfl, by rw [h127]; exact H⟩)
      · have H := H.2 e126
        refine pt_d (pt_iconst gx267_226 (fun v128 h128 => ?_))
        refine pt_d (pt_1 (fun n d => r_goto gx267_227) ?_)
        exact pt_d (pt_iret gx267_231 ⟨_, rfl, by rw [h128]; exact H⟩)
  have H := H.2 e123
  refine pa_c (lo := 60) (lo' := 61) (p := 171) z0 (fun e129 => ?_) (fun e129 => ?_)
  · have H := H.1 e129
    refine pt_d (pt_1 (fun n d => r_iloadn gx267_171 rfl) ?_)
    refine pt_d (pt_1 (fun n d => r_iloadn gx267_172 rfl) ?_)
    refine pt_d (pt_icmp_ge gx267_173 z1 z2 (fun e130 => ?_) (fun e130 => ?_))
    · have H := H.1 e130
      refine pt_d (pt_iconst gx267_180 (fun v131 h131 => ?_))
      exact pt_d (pt_iret gx267_181 ⟨_, rfl, by rw [h131]; exact H⟩)
    · have H := H.2 e130
      refine pt_d (pt_iconst gx267_176 (fun v132 h132 => ?_))
      refine pt_d (pt_1 (fun n d => r_goto gx267_177) ?_)
      exact pt_d (pt_iret gx267_181 ⟨_, rfl, by rw [h132]; exact H⟩)
  have H := H.2 e129
  refine pa_c (lo := 61) (lo' := 62) (p := 182) z0 (fun e133 => ?_) (fun e133 => ?_)
  · have H := H.1 e133
    refine pt_d (pt_1 (fun n d => r_iloadn gx267_182 rfl) ?_)
    refine pt_d (pt_1 (fun n d => r_iloadn gx267_183 rfl) ?_)
    refine pt_d (pt_icmp_ne gx267_184 z1 z2 (fun e134 => ?_) (fun e134 => ?_))
    · have H := H.1 e134
      refine pt_d (pt_iconst gx267_191 (fun v135 h135 => ?_))
      exact pt_d (pt_iret gx267_192 ⟨_, rfl, by rw [h135]; exact H⟩)
    · have H := H.2 e134
      refine pt_d (pt_iconst gx267_187 (fun v136 h136 => ?_))
      refine pt_d (pt_1 (fun n d => r_goto gx267_188) ?_)
      exact pt_d (pt_iret gx267_192 ⟨_, rfl, by rw [h136]; exact H⟩)
  have H := H.2 e133
  refine pa_c (lo := 62) (lo' := 63) (p := 193) z0 (fun e137 => ?_) (fun e137 => ?_)
  · have H := H.1 e137
    refine pt_d (pt_1 (fun n d => r_iloadn gx267_193 rfl) ?_)
    refine pt_d (pt_1 (fun n d => r_iloadn gx267_194 rfl) ?_)
    refine pt_d (pt_icmp_le gx267_195 z1 z2 (fun e138 => ?_) (fun e138 => ?_))
    · have H := H.1 e138
      refine pt_d (pt_iconst gx267_202 (fun v139 h139 => ?_))
      exact pt_d (pt_iret gx267_203 ⟨_, rfl, by rw [h139]; exact H⟩)
    · have H := H.2 e138
      refine pt_d (pt_iconst gx267_198 (fun v140 h140 => ?_))
      refine pt_d (pt_1 (fun n d => r_goto gx267_199) ?_)
      exact pt_d (pt_iret gx267_203 ⟨_, rfl, by rw [h140]; exact H⟩)
  have H := H.2 e137
  refine pa_0 (p := 218) ?_
  refine pt_d (pt_1 (fun n d => r_iloadn gx267_218 rfl) ?_)
  refine pt_d (pt_if_ne gx267_219 z1 (fun e141 => ?_) (fun e141 => ?_))
  · have H := H.1 e141
    refine pt_d (pt_iconst gx267_226 (fun v142 h142 => ?_))
    refine pt_d (pt_1 (fun n d => r_goto gx267_227) ?_)
    exact pt_d (pt_iret gx267_231 ⟨_, rfl, by rw [h142]; exact H⟩)
  · have H := H.2 e141
    refine pt_d (pt_1 (fun n d => r_iloadn gx267_222 rfl) ?_)
    refine pt_d (pt_if_eq gx267_223 z2 (fun e143 => ?_) (fun e143 => ?_))
    · have H := H.1 e143
      refine pt_d (pt_iconst gx267_230 (fun v144 h144 => ?_))
      exact pt_d (pt_iret gx267_231 ⟨_, rfl, by rw [h144]; exact H⟩)
    · have H := H.2 e143
      refine pt_d (pt_iconst gx267_226 (fun v145 h145 => ?_))
      refine pt_d (pt_1 (fun n d => r_goto gx267_227) ?_)
      exact pt_d (pt_iret gx267_231 ⟨_, rfl, by rw [h145]; exact H⟩)
theorem iDiv_m (x : Int32) : iDiv x.toInt (-1) = w32 (-x.toInt) := by
  unfold iDiv
  rw [oI, Int32.toInt_div, show (Int32.ofInt (-1)).toInt = -1 by rfl, Int.tdiv_neg, Int.tdiv_one, w32_b]
theorem iRem_m (x : Int32) : iRem x.toInt (-1) = 0 := by
  unfold iRem
  rw [i_rem (by decide), oI, show (Int32.ofInt (-1)).toInt = -1 by rfl, Int.tmod_neg, Int.tmod_one]
theorem bo_or {w : Int} (h : w ≠ 43 ∧ w ≠ 45 ∧ w ≠ 42 ∧ w ≠ 47 ∧ w ≠ 37 ∧ w ≠ 60 ∧ w ≠ 61 ∧ w ≠ 62 ∧ w ≠ 38) (a b : Int) : bo w a b = bI (a ≠ 0 ∨ b ≠ 0) := by
  unfold bo
  rw [if_neg h.1, if_neg h.2.1, if_neg h.2.2.1, if_neg h.2.2.2.1, if_neg h.2.2.2.2.1, if_neg h.2.2.2.2.2.1, if_neg h.2.2.2.2.2.2.1, if_neg h.2.2.2.2.2.2.2.1, if_neg h.2.2.2.2.2.2.2.2]

theorem c_267 {n : Nat} {X : aX} {h : aH} {x0 x1 x2 : Int32} {a0 a1 a2 : Int} (S : wS h) (z0 : x0.toInt = a0) (z1 : x1.toInt = a1) (z2 : x2.toInt = a2) : Pt n X zM267 0 [some (.int x0), some (.int x1), some (.int x2)] [] h (qI (fun y h' => h' = h ∧ y = bo a0 a1 a2)) :=
  pt_d (d267_0 S z0 z1 z2 ⟨fun e => ⟨fun e2 => ⟨rfl, by rw [e, bo_37, if_pos e2]⟩, fun n2 => ⟨fun n3 => ⟨rfl, by rw [e, bo_37, if_neg n2]⟩, fun e3 => ⟨rfl, by rw [e, bo_37, if_neg n2, e3, ← z1, iRem_m]⟩⟩⟩, fun n37 => ⟨fun e => ⟨fun e1 => ⟨rfl, by rw [e, bo_38]; exact (bI_f (fun w => w.1 e1)).symm⟩, fun n1 => ⟨fun e2 => ⟨rfl, by rw [e, bo_38]; exact (bI_f (fun w => w.2 e2)).symm⟩, fun n2 => ⟨rfl, by rw [e, bo_38]; exact (bI_t ⟨n1, n2⟩).symm⟩⟩⟩, fun n38 => ⟨fun e => ⟨fun n1 => ⟨rfl, by rw [bo_or (by omega)]; exact (bI_t (Or.inl n1)).symm⟩, fun e1 => ⟨fun e2 => ⟨rfl, by rw [bo_or (by omega)]; exact (bI_f (fun w => w.elim (fun w => w e1) (fun w => w e2))).symm⟩, fun n2 => ⟨rfl, by rw [bo_or (by omega)]; exact (bI_t (Or.inr n2)).symm⟩⟩⟩, fun n39 => ⟨fun e => ⟨fun n1 => ⟨rfl, by rw [bo_or (by omega)]; exact (bI_t (Or.inl n1)).symm⟩, fun e1 => ⟨fun e2 => ⟨rfl, by rw [bo_or (by omega)]; exact (bI_f (fun w => w.elim (fun w => w e1) (fun w => w e2))).symm⟩, fun n2 => ⟨rfl, by rw [bo_or (by omega)]; exact (bI_t (Or.inr n2)).symm⟩⟩⟩, fun n40 => ⟨fun e => ⟨fun n1 => ⟨rfl, by rw [bo_or (by omega)]; exact (bI_t (Or.inl n1)).symm⟩, fun e1 => ⟨fun e2 => ⟨rfl, by rw [bo_or (by omega)]; exact (bI_f (fun w => w.elim (fun w => w e1) (fun w => w e2))).symm⟩, fun n2 => ⟨rfl, by rw [bo_or (by omega)]; exact (bI_t (Or.inr n2)).symm⟩⟩⟩, fun n41 => ⟨fun e => ⟨rfl, by rw [e, bo_42]⟩, fun n42 => ⟨fun e => ⟨rfl, by rw [e, bo_43]⟩, fun n43 => ⟨fun e => ⟨fun n1 => ⟨rfl, by rw [bo_or (by omega)]; exact (bI_t (Or.inl n1)).symm⟩, fun e1 => ⟨fun e2 => ⟨rfl, by rw [bo_or (by omega)]; exact (bI_f (fun w => w.elim (fun w => w e1) (fun w => w e2))).symm⟩, fun n2 => ⟨rfl, by rw [bo_or (by omega)]; exact (bI_t (Or.inr n2)).symm⟩⟩⟩, fun n44 => ⟨fun e => ⟨rfl, by rw [e, bo_45]⟩, fun n45 => ⟨fun e => ⟨fun n1 => ⟨rfl, by rw [bo_or (by omega)]; exact (bI_t (Or.inl n1)).symm⟩, fun e1 => ⟨fun e2 => ⟨rfl, by rw [bo_or (by omega)]; exact (bI_f (fun w => w.elim (fun w => w e1) (fun w => w e2))).symm⟩, fun n2 => ⟨rfl, by rw [bo_or (by omega)]; exact (bI_t (Or.inr n2)).symm⟩⟩⟩, fun n46 => ⟨fun e => ⟨fun n2 => ⟨fun n3 => ⟨rfl, by rw [e, bo_47, if_neg n2]⟩, fun e3 => ⟨rfl, by rw [e, bo_47, if_neg n2, e3, ← z1, iDiv_m]⟩⟩, fun e2 => ⟨rfl, by rw [e, bo_47, if_pos e2]⟩⟩, fun n47 => ⟨fun e => ⟨fun n1 => ⟨rfl, by rw [bo_or (by omega)]; exact (bI_t (Or.inl n1)).symm⟩, fun e1 => ⟨fun e2 => ⟨rfl, by rw [bo_or (by omega)]; exact (bI_f (fun w => w.elim (fun w => w e1) (fun w => w e2))).symm⟩, fun n2 => ⟨rfl, by rw [bo_or (by omega)]; exact (bI_t (Or.inr n2)).symm⟩⟩⟩, fun n48 => ⟨fun e => ⟨fun n1 => ⟨rfl, by rw [bo_or (by omega)]; exact (bI_t (Or.inl n1)).symm⟩, fun e1 => ⟨fun e2 => ⟨rfl, by rw [bo_or (by omega)]; exact (bI_f (fun w => w.elim (fun w => w e1) (fun w => w e2))).symm⟩, fun n2 => ⟨rfl, by rw [bo_or (by omega)]; exact (bI_t (Or.inr n2)).symm⟩⟩⟩, fun n49 => ⟨fun e => ⟨fun n1 => ⟨rfl, by rw [bo_or (by omega)]; exact (bI_t (Or.inl n1)).symm⟩, fun e1 => ⟨fun e2 => ⟨rfl, by rw [bo_or (by omega)]; exact (bI_f (fun w => w.elim (fun w => w e1) (fun w => w e2))).symm⟩, fun n2 => ⟨rfl, by rw [bo_or (by omega)]; exact (bI_t (Or.inr n2)).symm⟩⟩⟩, fun n50 => ⟨fun e => ⟨fun n1 => ⟨rfl, by rw [bo_or (by omega)]; exact (bI_t (Or.inl n1)).symm⟩, fun e1 => ⟨fun e2 => ⟨rfl, by rw [bo_or (by omega)]; exact (bI_f (fun w => w.elim (fun w => w e1) (fun w => w e2))).symm⟩, fun n2 => ⟨rfl, by rw [bo_or (by omega)]; exact (bI_t (Or.inr n2)).symm⟩⟩⟩, fun n51 => ⟨fun e => ⟨fun n1 => ⟨rfl, by rw [bo_or (by omega)]; exact (bI_t (Or.inl n1)).symm⟩, fun e1 => ⟨fun e2 => ⟨rfl, by rw [bo_or (by omega)]; exact (bI_f (fun w => w.elim (fun w => w e1) (fun w => w e2))).symm⟩, fun n2 => ⟨rfl, by rw [bo_or (by omega)]; exact (bI_t (Or.inr n2)).symm⟩⟩⟩, fun n52 => ⟨fun e => ⟨fun n1 => ⟨rfl, by rw [bo_or (by omega)]; exact (bI_t (Or.inl n1)).symm⟩, fun e1 => ⟨fun e2 => ⟨rfl, by rw [bo_or (by omega)]; exact (bI_f (fun w => w.elim (fun w => w e1) (fun w => w e2))).symm⟩, fun n2 => ⟨rfl, by rw [bo_or (by omega)]; exact (bI_t (Or.inr n2)).symm⟩⟩⟩, fun n53 => ⟨fun e => ⟨fun n1 => ⟨rfl, by rw [bo_or (by omega)]; exact (bI_t (Or.inl n1)).symm⟩, fun e1 => ⟨fun e2 => ⟨rfl, by rw [bo_or (by omega)]; exact (bI_f (fun w => w.elim (fun w => w e1) (fun w => w e2))).symm⟩, fun n2 => ⟨rfl, by rw [bo_or (by omega)]; exact (bI_t (Or.inr n2)).symm⟩⟩⟩, fun n54 => ⟨fun e => ⟨fun n1 => ⟨rfl, by rw [bo_or (by omega)]; exact (bI_t (Or.inl n1)).symm⟩, fun e1 => ⟨fun e2 => ⟨rfl, by rw [bo_or (by omega)]; exact (bI_f (fun w => w.elim (fun w => w e1) (fun w => w e2))).symm⟩, fun n2 => ⟨rfl, by rw [bo_or (by omega)]; exact (bI_t (Or.inr n2)).symm⟩⟩⟩, fun n55 => ⟨fun e => ⟨fun n1 => ⟨rfl, by rw [bo_or (by omega)]; exact (bI_t (Or.inl n1)).symm⟩, fun e1 => ⟨fun e2 => ⟨rfl, by rw [bo_or (by omega)]; exact (bI_f (fun w => w.elim (fun w => w e1) (fun w => w e2))).symm⟩, fun n2 => ⟨rfl, by rw [bo_or (by omega)]; exact (bI_t (Or.inr n2)).symm⟩⟩⟩, fun n56 => ⟨fun e => ⟨fun n1 => ⟨rfl, by rw [bo_or (by omega)]; exact (bI_t (Or.inl n1)).symm⟩, fun e1 => ⟨fun e2 => ⟨rfl, by rw [bo_or (by omega)]; exact (bI_f (fun w => w.elim (fun w => w e1) (fun w => w e2))).symm⟩, fun n2 => ⟨rfl, by rw [bo_or (by omega)]; exact (bI_t (Or.inr n2)).symm⟩⟩⟩, fun n57 => ⟨fun e => ⟨fun n1 => ⟨rfl, by rw [bo_or (by omega)]; exact (bI_t (Or.inl n1)).symm⟩, fun e1 => ⟨fun e2 => ⟨rfl, by rw [bo_or (by omega)]; exact (bI_f (fun w => w.elim (fun w => w e1) (fun w => w e2))).symm⟩, fun n2 => ⟨rfl, by rw [bo_or (by omega)]; exact (bI_t (Or.inr n2)).symm⟩⟩⟩, fun n58 => ⟨fun e => ⟨fun n1 => ⟨rfl, by rw [bo_or (by omega)]; exact (bI_t (Or.inl n1)).symm⟩, fun e1 => ⟨fun e2 => ⟨rfl, by rw [bo_or (by omega)]; exact (bI_f (fun w => w.elim (fun w => w e1) (fun w => w e2))).symm⟩, fun n2 => ⟨rfl, by rw [bo_or (by omega)]; exact (bI_t (Or.inr n2)).symm⟩⟩⟩, fun n59 => ⟨fun e => ⟨fun e2 => ⟨rfl, by rw [e, bo_60]; exact (bI_f (by omega)).symm⟩, fun e2 => ⟨rfl, by rw [e, bo_60]; exact (bI_t e2).symm⟩⟩, fun n60 => ⟨fun e => ⟨fun e2 => ⟨rfl, by rw [e, bo_61]; exact (bI_f e2).symm⟩, fun e2 => ⟨rfl, by rw [e, bo_61]; exact (bI_t e2).symm⟩⟩, fun n61 => ⟨fun e => ⟨fun e2 => ⟨rfl, by rw [e, bo_62]; exact (bI_f (by omega)).symm⟩, fun e2 => ⟨rfl, by rw [e, bo_62]; exact (bI_t e2).symm⟩⟩, fun n62 => ⟨fun n1 => ⟨rfl, by rw [bo_or (by omega)]; exact (bI_t (Or.inl n1)).symm⟩, fun e1 => ⟨fun e2 => ⟨rfl, by rw [bo_or (by omega)]; exact (bI_f (fun w => w.elim (fun w => w e1) (fun w => w e2))).symm⟩, fun n2 => ⟨rfl, by rw [bo_or (by omega)]; exact (bI_t (Or.inr n2)).symm⟩⟩⟩⟩⟩⟩⟩⟩⟩⟩⟩⟩⟩⟩⟩⟩⟩⟩⟩⟩⟩⟩⟩⟩⟩⟩⟩⟩⟩)
theorem d268_0 {n : Nat} {X : aX} {h : aH} {P : Int → aH → Prop} {x1 x2 x3 : Int32} {a1 a2 a3 : Int} (S : wS h) (z1 : x1.toInt = a1) (z2 : x2.toInt = a2) (z3 : x3.toInt = a3) (H : (∀ (w4 : Int32) (w5 : Int32) (u6_ : Option Value), w4.toInt = 0 → w5.toInt = w32 ((w32 (170 * a1)) + a2) → Pt n X zM268 12 [some (.ref 72), some (.int x1), some (.int x2), some (.int x3), some (.int w4), some (.int w5), u6_] [] h (qI P))) : Pt (n + 1) X zM268 0 [some (.ref 72), some (.int x1), some (.int x2), some (.int x3), none, none, none] [] h (qI P) := by
  refine pt_iconst gx268_0 (fun v1 h1 => ?_)
  refine pt_d (pt_1 (fun n d => r_istore (L' := [some (.ref 72), some (.int x1), some (.int x2), some (.int x3), some (.int v1), none, none]) gx268_1 rfl rfl) ?_)
  refine pt_d (pt_sipush gx268_3 (fun v2 h2 => ?_))
  refine pt_d (pt_1 (fun n d => r_iloadn gx268_6 rfl) ?_)
  refine pt_d (pt_imul gx268_7 h2 z1 (fun v3 h3 => ?_))
  refine pt_d (pt_1 (fun n d => r_iloadn gx268_8 rfl) ?_)
  refine pt_d (pt_iadd gx268_9 h3 z2 (fun v4 h4 => ?_))
  refine pt_d (pt_1 (fun n d => r_istore (L' := [some (.ref 72), some (.int x1), some (.int x2), some (.int x3), some (.int v1), some (.int v4), none]) gx268_10 rfl rfl) ?_)
  exact H v1 v4 _ h1 h4
theorem d268_12 {n : Nat} {X : aX} {h : aH} {P : Int → aH → Prop} {x1 x2 x3 x4 x5 : Int32} {a1 a2 a3 a4 a5 : Int} {u6 : Option Value} (S : wS h) (z1 : x1.toInt = a1) (z2 : x2.toInt = a2) (z3 : x3.toInt = a3) (z4 : x4.toInt = a4) (z5 : x5.toInt = a5) (H : ((w32 ((w32 (170 * a1)) + a3) ≤ a5 → P (vw h 125 0) h) ∧ (a5 < w32 ((w32 (170 * a1)) + a3) → (0 ≤ a5 → a5 < 2890 → ((vw h 122 a5 = 1 → ((vw h 122 a5 ≠ 1 → (0 ≤ vw h 123 a5 → vw h 123 a5 < 13 → (0 ≤ a4 → a4 < 170 → ∀ h_19 : aH, wS h_19 → vw h_19 = up (vw h) 125 a4 (vw h 124 (vw h 123 a5)) → (∀ (w4 : Int32) (w5 : Int32) (u6_ : Option Value), w4.toInt = w32 (a4 + 1) → w5.toInt = w32 (a5 + 1) → Pt n X zM268 12 [some (.ref 72), some (.int x1), some (.int x2), some (.int x3), some (.int w4), some (.int w5), u6_] [] h_19 (qI P))))) ∧ (vw h 122 a5 = 1 → (0 ≤ a4 → a4 < 170 → ∀ h_24 : aH, wS h_24 → vw h_24 = up (vw h) 125 a4 (vw h 123 a5) → (∀ (w4 : Int32) (w5 : Int32) (u6_ : Option Value), w4.toInt = w32 (a4 + 1) → w5.toInt = w32 (a5 + 1) → Pt n X zM268 12 [some (.ref 72), some (.int x1), some (.int x2), some (.int x3), some (.int w4), some (.int w5), u6_] [] h_24 (qI P)))))) ∧ (vw h 122 a5 ≠ 1 → ((vw h 122 a5 ≠ 2 → ((vw h 122 a5 ≠ 3 → ((vw h 122 a5 ≠ 4 → (0 ≤ w32 ((w32 (a4 + (-1))) - 1) → w32 ((w32 (a4 + (-1))) - 1) < 170 → (0 ≤ w32 (a4 + (-1)) → w32 (a4 + (-1)) < 170 → ∀ h_44 : aH, wS h_44 → vw h_44 = up (vw h) 125 (w32 ((w32 (a4 + (-1))) - 1)) (bo (vw h 122 a5) (vw h 125 (w32 ((w32 (a4 + (-1))) - 1))) (vw h 125 (w32 (a4 + (-1))))) → (∀ (w4 : Int32) (w5 : Int32) (u6_ : Option Value), w4.toInt = w32 (a4 + (-1)) → w5.toInt = w32 (a5 + 1) → Pt n X zM268 12 [some (.ref 72), some (.int x1), some (.int x2), some (.int x3), some (.int w4), some (.int w5), u6_] [] h_44 (qI P))))) ∧ (vw h 122 a5 = 4 → (0 ≤ w32 (a4 - 1) → w32 (a4 - 1) < 170 → ∀ h_54 : aH, wS h_54 → vw h_54 = up (vw h) 125 (w32 (a4 - 1)) (w32 (-(vw h 125 (w32 (a4 - 1))))) → (∀ (w5 : Int32) (u6_ : Option Value), w5.toInt = w32 (a5 + 1) → Pt n X zM268 12 [some (.ref 72), some (.int x1), some (.int x2), some (.int x3), some (.int x4), some (.int w5), u6_] [] h_54 (qI P)))))) ∧ (vw h 122 a5 = 3 → (0 ≤ w32 (a4 - 1) → w32 (a4 - 1) < 170 → ((vw h 125 (w32 (a4 - 1)) ≠ 0 → ∀ h_65 : aH, wS h_65 → vw h_65 = up (vw h) 125 (w32 (a4 - 1)) 0 → (∀ (w5 : Int32) (u6_ : Option Value), w5.toInt = w32 (a5 + 1) → Pt n X zM268 12 [some (.ref 72), some (.int x1), some (.int x2), some (.int x3), some (.int x4), some (.int w5), u6_] [] h_65 (qI P))) ∧ (vw h 125 (w32 (a4 - 1)) = 0 → ∀ h_68 : aH, wS h_68 → vw h_68 = up (vw h) 125 (w32 (a4 - 1)) 1 → (∀ (w5 : Int32) (u6_ : Option Value), w5.toInt = w32 (a5 + 1) → Pt n X zM268 12 [some (.ref 72), some (.int x1), some (.int x2), some (.int x3), some (.int x4), some (.int w5), u6_] [] h_68 (qI P)))))))) ∧ (vw h 122 a5 = 2 → ((vw h 122 a5 ≠ 1 → (0 ≤ vw h 123 a5 → vw h 123 a5 < 13 → (0 ≤ a4 → a4 < 170 → ∀ h_77 : aH, wS h_77 → vw h_77 = up (vw h) 125 a4 (vw h 124 (vw h 123 a5)) → (∀ (w4 : Int32) (w5 : Int32) (u6_ : Option Value), w4.toInt = w32 (a4 + 1) → w5.toInt = w32 (a5 + 1) → Pt n X zM268 12 [some (.ref 72), some (.int x1), some (.int x2), some (.int x3), some (.int w4), some (.int w5), u6_] [] h_77 (qI P))))) ∧ (vw h 122 a5 = 1 → (0 ≤ a4 → a4 < 170 → ∀ h_82 : aH, wS h_82 → vw h_82 = up (vw h) 125 a4 (vw h 123 a5) → (∀ (w4 : Int32) (w5 : Int32) (u6_ : Option Value), w4.toInt = w32 (a4 + 1) → w5.toInt = w32 (a5 + 1) → Pt n X zM268 12 [some (.ref 72), some (.int x1), some (.int x2), some (.int x3), some (.int w4), some (.int w5), u6_] [] h_82 (qI P))))))))))))) : Pt (n + 1) X zM268 12 [some (.ref 72), some (.int x1), some (.int x2), some (.int x3), some (.int x4), some (.int x5), u6] [] h (qI P) := by
  refine pt_1 (fun n d => r_iload gx268_12 rfl) ?_
  refine pt_d (pt_sipush gx268_14 (fun v1 h1 => ?_))
  refine pt_d (pt_1 (fun n d => r_iloadn gx268_17 rfl) ?_)
  refine pt_d (pt_imul gx268_18 h1 z1 (fun v2 h2 => ?_))
  refine pt_d (pt_1 (fun n d => r_iloadn gx268_19 rfl) ?_)
  refine pt_d (pt_iadd gx268_20 h2 z3 (fun v3 h3 => ?_))
  refine pt_d (pt_icmp_ge gx268_21 z5 h3 (fun e4 => ?_) (fun e4 => ?_))
  · have H := H.1 e4
    refine pt_d (pt_1 (fun n d => r_aloadn gx268_188 rfl) ?_)
    refine pt_d (pt_getR gx268_189 S tr_72_70 ?_)
    refine pt_d (pt_iconst gx268_192 (fun v6 h6 => ?_))
    refine pt_d (pt_iald (N' := 170) gx268_193 S tl_125 h6 (fun v7 p7 q7 h7 => ?_))
    exact pt_d (pt_iret gx268_194 ⟨_, rfl, by rw [h7]; exact H⟩)
  · have H := H.2 e4
    refine pt_d (pt_1 (fun n d => r_aloadn gx268_24 rfl) ?_)
    refine pt_d (pt_getR gx268_25 S tr_72_62 ?_)
    refine pt_d (pt_1 (fun n d => r_iload gx268_28 rfl) ?_)
    refine pt_d (pt_iald (N' := 2890) gx268_30 S tl_122 z5 (fun v9 p9 q9 h9 => ?_))
    have H := H p9 q9
    refine pt_d (pt_1 (fun n d => r_istore (L' := [some (.ref 72), some (.int x1), some (.int x2), some (.int x3), some (.int x4), some (.int x5), some (.int v9)]) gx268_31 rfl rfl) ?_)
    refine pt_d (pt_1 (fun n d => r_iload gx268_33 rfl) ?_)
    refine pt_d (pt_iconst gx268_35 (fun v10 h10 => ?_))
    refine pt_d (pt_icmp_eq gx268_36 h9 h10 (fun e11 => ?_) (fun e11 => ?_))
    · have H := H.1 e11
      refine pt_d (pt_1 (fun n d => r_aloadn gx268_45 rfl) ?_)
      refine pt_d (pt_getR gx268_46 S tr_72_70 ?_)
      refine pt_d (pt_1 (fun n d => r_iload gx268_49 rfl) ?_)
      refine pt_d (pt_1 (fun n d => r_iload gx268_51 rfl) ?_)
      refine pt_d (pt_iconst gx268_53 (fun v13 h13 => ?_))
      refine pt_d (pt_icmp_ne gx268_54 h9 h13 (fun e14 => ?_) (fun e14 => ?_))
      · have H := H.1 e14
        refine pt_d (pt_1 (fun n d => r_aloadn gx268_67 rfl) ?_)
        refine pt_d (pt_getR gx268_68 S tr_72_69 ?_)
        refine pt_d (pt_1 (fun n d => r_aloadn gx268_71 rfl) ?_)
        refine pt_d (pt_getR gx268_72 S tr_72_63 ?_)
        refine pt_d (pt_1 (fun n d => r_iload gx268_75 rfl) ?_)
        refine pt_d (pt_iald (N' := 2890) gx268_77 S tl_123 z5 (fun v17 p17 q17 h17 => ?_))
        refine pt_d (pt_iald (N' := 13) gx268_78 S tl_124 h17 (fun v18 p18 q18 h18 => ?_))
        have H := H p18 q18
        refine pt_d (pt_iast (N' := 170) gx268_79 S tl_125 z4 h18 (fun h_19 S19 p19 q19 e19 => ?_))
        have H := H p19 q19
        refine pt_d (pt_iinc (c := 1) gx268_80 rfl z4 (fun v20 h20 => ?_))
        show Pt _ _ _ _ [some (.ref 72), some (.int x1), some (.int x2), some (.int x3), some (.int v20), some (.int x5), some (.int v9)] [] _ _
        refine pt_d (pt_1 (fun n d => r_goto gx268_83) ?_)
        refine pt_d (pt_iinc (c := 1) gx268_182 rfl z5 (fun v21 h21 => ?_))
        show Pt _ _ _ _ [some (.ref 72), some (.int x1), some (.int x2), some (.int x3), some (.int v20), some (.int v21), some (.int v9)] [] _ _
        refine pt_d (pt_1 (fun n d => r_goto gx268_185) ?_)
        have H := H h_19 S19 (by rw [e19])
        exact H v20 v21 _ h20 h21
      · have H := H.2 e14
        refine pt_d (pt_1 (fun n d => r_aloadn gx268_57 rfl) ?_)
        refine pt_d (pt_getR gx268_58 S tr_72_63 ?_)
        refine pt_d (pt_1 (fun n d => r_iload gx268_61 rfl) ?_)
        refine pt_d (pt_iald (N' := 2890) gx268_63 S tl_123 z5 (fun v23 p23 q23 h23 => ?_))
        refine pt_d (pt_1 (fun n d => r_goto gx268_64) ?_)
        refine pt_d (pt_iast (N' := 170) gx268_79 S tl_125 z4 h23 (fun h_24 S24 p24 q24 e24 => ?_))
        have H := H p24 q24
        refine pt_d (pt_iinc (c := 1) gx268_80 rfl z4 (fun v25 h25 => ?_))
        show Pt _ _ _ _ [some (.ref 72), some (.int x1), some (.int x2), some (.int x3), some (.int v25), some (.int x5), some (.int v9)] [] _ _
        refine pt_d (pt_1 (fun n d => r_goto gx268_83) ?_)
        refine pt_d (pt_iinc (c := 1) gx268_182 rfl z5 (fun v26 h26 => ?_))
        show Pt _ _ _ _ [some (.ref 72), some (.int x1), some (.int x2), some (.int x3), some (.int v25), some (.int v26), some (.int v9)] [] _ _
        refine pt_d (pt_1 (fun n d => r_goto gx268_185) ?_)
        have H := H h_24 S24 (by rw [e24])
        exact H v25 v26 _ h25 h26
    · have H := H.2 e11
      refine pt_d (pt_1 (fun n d => r_iload gx268_39 rfl) ?_)
      refine pt_d (pt_iconst gx268_41 (fun v27 h27 => ?_))
      refine pt_d (pt_icmp_ne gx268_42 h9 h27 (fun e28 => ?_) (fun e28 => ?_))
      · have H := H.1 e28
        refine pt_d (pt_1 (fun n d => r_iload gx268_86 rfl) ?_)
        refine pt_d (pt_iconst gx268_88 (fun v29 h29 => ?_))
        refine pt_d (pt_icmp_ne gx268_89 h9 h29 (fun e30 => ?_) (fun e30 => ?_))
        · have H := H.1 e30
          refine pt_d (pt_1 (fun n d => r_iload gx268_121 rfl) ?_)
          refine pt_d (pt_iconst gx268_123 (fun v31 h31 => ?_))
          refine pt_d (pt_icmp_ne gx268_124 h9 h31 (fun e32 => ?_) (fun e32 => ?_))
          · have H := H.1 e32
            refine pt_d (pt_iinc (c := (-1)) gx268_149 rfl z4 (fun v33 h33 => ?_))
            show Pt _ _ _ _ [some (.ref 72), some (.int x1), some (.int x2), some (.int x3), some (.int v33), some (.int x5), some (.int v9)] [] _ _
            refine pt_d (pt_1 (fun n d => r_aloadn gx268_152 rfl) ?_)
            refine pt_d (pt_getR gx268_153 S tr_72_70 ?_)
            refine pt_d (pt_1 (fun n d => r_iload gx268_156 rfl) ?_)
            refine pt_d (pt_iconst gx268_158 (fun v35 h35 => ?_))
            refine pt_d (pt_isub gx268_159 h33 h35 (fun v36 h36 => ?_))
            refine pt_d (pt_1 (fun n d => r_iload gx268_160 rfl) ?_)
            refine pt_d (pt_1 (fun n d => r_aloadn gx268_162 rfl) ?_)
            refine pt_d (pt_getR gx268_163 S tr_72_70 ?_)
            refine pt_d (pt_1 (fun n d => r_iload gx268_166 rfl) ?_)
            refine pt_d (pt_iconst gx268_168 (fun v38 h38 => ?_))
            refine pt_d (pt_isub gx268_169 h33 h38 (fun v39 h39 => ?_))
            refine pt_d (pt_iald (N' := 170) gx268_170 S tl_125 h39 (fun v40 p40 q40 h40 => ?_))
            have H := H p40 q40
            refine pt_d (pt_1 (fun n d => r_aloadn gx268_171 rfl) ?_)
            refine pt_d (pt_getR gx268_172 S tr_72_70 ?_)
            refine pt_d (pt_1 (fun n d => r_iload gx268_175 rfl) ?_)
            refine pt_d (pt_iald (N' := 170) gx268_177 S tl_125 h33 (fun v42 p42 q42 h42 => ?_))
            have H := H p42 q42
            refine pt_d (pt_stat (as := [.int v9, .int v40, .int v42]) (r := [.int v36, .ref 125]) gx268_178 rfl (show zmt[267]? = some zM267 from rfl) rfl rfl rfl rfl (c_267 S h9 h40 h42) (kqP (fun v43 h43 => ?_)))
            show Pt _ _ _ 181 _ [.int v43, .int v36, .ref 125] _ _
            refine pt_d (pt_iast (N' := 170) gx268_181 S tl_125 h36 h43 (fun h_44 S44 p44 q44 e44 => ?_))
            refine pt_d (pt_iinc (c := 1) gx268_182 rfl z5 (fun v45 h45 => ?_))
            show Pt _ _ _ _ [some (.ref 72), some (.int x1), some (.int x2), some (.int x3), some (.int v33), some (.int v45), some (.int v9)] [] _ _
            refine pt_d (pt_1 (fun n d => r_goto gx268_185) ?_)
            have H := H h_44 S44 (by rw [e44])
            exact H v33 v45 _ h33 h45
          · have H := H.2 e32
            refine pt_d (pt_1 (fun n d => r_aloadn gx268_127 rfl) ?_)
            refine pt_d (pt_getR gx268_128 S tr_72_70 ?_)
            refine pt_d (pt_1 (fun n d => r_iload gx268_131 rfl) ?_)
            refine pt_d (pt_iconst gx268_133 (fun v47 h47 => ?_))
            refine pt_d (pt_isub gx268_134 z4 h47 (fun v48 h48 => ?_))
            refine pt_d (pt_1 (fun n d => r_aloadn gx268_135 rfl) ?_)
            refine pt_d (pt_getR gx268_136 S tr_72_70 ?_)
            refine pt_d (pt_1 (fun n d => r_iload gx268_139 rfl) ?_)
            refine pt_d (pt_iconst gx268_141 (fun v50 h50 => ?_))
            refine pt_d (pt_isub gx268_142 z4 h50 (fun v51 h51 => ?_))
            refine pt_d (pt_iald (N' := 170) gx268_143 S tl_125 h51 (fun v52 p52 q52 h52 => ?_))
            have H := H p52 q52
            refine pt_d (pt_ineg gx268_144 h52 (fun v53 h53 => ?_))
            refine pt_d (pt_iast (N' := 170) gx268_145 S tl_125 h48 h53 (fun h_54 S54 p54 q54 e54 => ?_))
            refine pt_d (pt_1 (fun n d => r_goto gx268_146) ?_)
            refine pt_d (pt_iinc (c := 1) gx268_182 rfl z5 (fun v55 h55 => ?_))
            show Pt _ _ _ _ [some (.ref 72), some (.int x1), some (.int x2), some (.int x3), some (.int x4), some (.int v55), some (.int v9)] [] _ _
            refine pt_d (pt_1 (fun n d => r_goto gx268_185) ?_)
            have H := H h_54 S54 (by rw [e54])
            exact H v55 _ h55
        · have H := H.2 e30
          refine pt_d (pt_1 (fun n d => r_aloadn gx268_92 rfl) ?_)
          refine pt_d (pt_getR gx268_93 S tr_72_70 ?_)
          refine pt_d (pt_1 (fun n d => r_iload gx268_96 rfl) ?_)
          refine pt_d (pt_iconst gx268_98 (fun v57 h57 => ?_))
          refine pt_d (pt_isub gx268_99 z4 h57 (fun v58 h58 => ?_))
          refine pt_d (pt_1 (fun n d => r_aloadn gx268_100 rfl) ?_)
          refine pt_d (pt_getR gx268_101 S tr_72_70 ?_)
          refine pt_d (pt_1 (fun n d => r_iload gx268_104 rfl) ?_)
          refine pt_d (pt_iconst gx268_106 (fun v60 h60 => ?_))
          refine pt_d (pt_isub gx268_107 z4 h60 (fun v61 h61 => ?_))
          refine pt_d (pt_iald (N' := 170) gx268_108 S tl_125 h61 (fun v62 p62 q62 h62 => ?_))
          have H := H p62 q62
          refine pt_d (pt_if_ne gx268_109 h62 (fun e63 => ?_) (fun e63 => ?_))
          · have H := H.1 e63
            refine pt_d (pt_iconst gx268_116 (fun v64 h64 => ?_))
            refine pt_d (pt_iast (N' := 170) gx268_117 S tl_125 h58 h64 (fun h_65 S65 p65 q65 e65 => ?_))
            refine pt_d (pt_1 (fun n d => r_goto gx268_118) ?_)
            refine pt_d (pt_iinc (c := 1) gx268_182 rfl z5 (fun v66 h66 => ?_))
            show Pt _ _ _ _ [some (.ref 72), some (.int x1), some (.int x2), some (.int x3), some (.int x4), some (.int v66), some (.int v9)] [] _ _
            refine pt_d (pt_1 (fun n d => r_goto gx268_185) ?_)
            have H := H h_65 S65 (by rw [e65])
            exact H v66 _ h66
          · have H := H.2 e63
            refine pt_d (pt_iconst gx268_112 (fun v67 h67 => ?_))
            refine pt_d (pt_1 (fun n d => r_goto gx268_113) ?_)
            refine pt_d (pt_iast (N' := 170) gx268_117 S tl_125 h58 h67 (fun h_68 S68 p68 q68 e68 => ?_))
            refine pt_d (pt_1 (fun n d => r_goto gx268_118) ?_)
            refine pt_d (pt_iinc (c := 1) gx268_182 rfl z5 (fun v69 h69 => ?_))
            show Pt _ _ _ _ [some (.ref 72), some (.int x1), some (.int x2), some (.int x3), some (.int x4), some (.int v69), some (.int v9)] [] _ _
            refine pt_d (pt_1 (fun n d => r_goto gx268_185) ?_)
            have H := H h_68 S68 (by rw [e68])
            exact H v69 _ h69
      · have H := H.2 e28
        refine pt_d (pt_1 (fun n d => r_aloadn gx268_45 rfl) ?_)
        refine pt_d (pt_getR gx268_46 S tr_72_70 ?_)
        refine pt_d (pt_1 (fun n d => r_iload gx268_49 rfl) ?_)
        refine pt_d (pt_1 (fun n d => r_iload gx268_51 rfl) ?_)
        refine pt_d (pt_iconst gx268_53 (fun v71 h71 => ?_))
        refine pt_d (pt_icmp_ne gx268_54 h9 h71 (fun e72 => ?_) (fun e72 => ?_))
        · have H := H.1 e72
          refine pt_d (pt_1 (fun n d => r_aloadn gx268_67 rfl) ?_)
          refine pt_d (pt_getR gx268_68 S tr_72_69 ?_)
          refine pt_d (pt_1 (fun n d => r_aloadn gx268_71 rfl) ?_)
          refine pt_d (pt_getR gx268_72 S tr_72_63 ?_)
          refine pt_d (pt_1 (fun n d => r_iload gx268_75 rfl) ?_)
          refine pt_d (pt_iald (N' := 2890) gx268_77 S tl_123 z5 (fun v75 p75 q75 h75 => ?_))
          refine pt_d (pt_iald (N' := 13) gx268_78 S tl_124 h75 (fun v76 p76 q76 h76 => ?_))
          have H := H p76 q76
          refine pt_d (pt_iast (N' := 170) gx268_79 S tl_125 z4 h76 (fun h_77 S77 p77 q77 e77 => ?_))
          have H := H p77 q77
          refine pt_d (pt_iinc (c := 1) gx268_80 rfl z4 (fun v78 h78 => ?_))
          show Pt _ _ _ _ [some (.ref 72), some (.int x1), some (.int x2), some (.int x3), some (.int v78), some (.int x5), some (.int v9)] [] _ _
          refine pt_d (pt_1 (fun n d => r_goto gx268_83) ?_)
          refine pt_d (pt_iinc (c := 1) gx268_182 rfl z5 (fun v79 h79 => ?_))
          show Pt _ _ _ _ [some (.ref 72), some (.int x1), some (.int x2), some (.int x3), some (.int v78), some (.int v79), some (.int v9)] [] _ _
          refine pt_d (pt_1 (fun n d => r_goto gx268_185) ?_)
          have H := H h_77 S77 (by rw [e77])
          exact H v78 v79 _ h78 h79
        · have H := H.2 e72
          refine pt_d (pt_1 (fun n d => r_aloadn gx268_57 rfl) ?_)
          refine pt_d (pt_getR gx268_58 S tr_72_63 ?_)
          refine pt_d (pt_1 (fun n d => r_iload gx268_61 rfl) ?_)
          refine pt_d (pt_iald (N' := 2890) gx268_63 S tl_123 z5 (fun v81 p81 q81 h81 => ?_))
          refine pt_d (pt_1 (fun n d => r_goto gx268_64) ?_)
          refine pt_d (pt_iast (N' := 170) gx268_79 S tl_125 z4 h81 (fun h_82 S82 p82 q82 e82 => ?_))
          have H := H p82 q82
          refine pt_d (pt_iinc (c := 1) gx268_80 rfl z4 (fun v83 h83 => ?_))
          show Pt _ _ _ _ [some (.ref 72), some (.int x1), some (.int x2), some (.int x3), some (.int v83), some (.int x5), some (.int v9)] [] _ _
          refine pt_d (pt_1 (fun n d => r_goto gx268_83) ?_)
          refine pt_d (pt_iinc (c := 1) gx268_182 rfl z5 (fun v84 h84 => ?_))
          show Pt _ _ _ _ [some (.ref 72), some (.int x1), some (.int x2), some (.int x3), some (.int v83), some (.int v84), some (.int v9)] [] _ _
          refine pt_d (pt_1 (fun n d => r_goto gx268_185) ?_)
          have H := H h_82 S82 (by rw [e82])
          exact H v83 v84 _ h83 h84
def pAt (V : vS) : Int → List Int → Prop
  | n, [] => n = 0
  | n, x :: r => V 125 (n - 1) = x ∧ pAt V (n - 1) r
theorem pAt_n {V : vS} : ∀ (st : List Int) (n : Int), pAt V n st → n = (st.length : Int)
  | [], _, h => h
  | _ :: r, n, h => by
    have := pAt_n r (n - 1) h.2
    show n = ((r.length + 1 : Nat) : Int)
    omega
theorem pAt_k {V W : vS} : ∀ (st : List Int) (n : Int), (∀ j, j < n → W 125 j = V 125 j) → pAt V n st → pAt W n st
  | [], _, _, h => h
  | _ :: r, n, k, h => ⟨(k (n - 1) (by omega)).trans h.1, pAt_k r (n - 1) (fun j u => k j (by omega)) h.2⟩
theorem l_268 {X : aX} {x1 x2 x3 : Int32} {t b r : Int} {N : Int → Int} (h1 : x1.toInt = t) (h3 : x3.toInt = b) (t0 : 0 ≤ t ∧ t ≤ 15) (b0 : 0 ≤ b ∧ b ≤ 170) : ∀ (n : Nat) (h : aH) (x4 x5 : Int32) (u6 : Option Value) (m p : Int) (L : List (Int × Int)) (st : List Int), wS h → x4.toInt = m → x5.toInt = p → p + (L.length : Int) = 170 * t + b → m ≤ 170 → cAt (vw h) p L → pAt (vw h) m st → (∀ j, vw h 124 j = N j) → run N L st = [r] → Pt n X zM268 12 [some (.ref 72), some (.int x1), some (.int x2), some (.int x3), some (.int x4), some (.int x5), u6] [] h (qI (fun y h' => wS h' ∧ y = r ∧ ∀ c j, c ≠ 125 → vw h' c j = vw h c j)) := by
  intro n
  induction n with
  | zero => exact fun _ _ _ _ _ _ _ _ _ _ _ _ _ _ _ _ _ => pt_z
  | succ n ih =>
    intro h x4 x5 u6 m p L st S h4 h5 hp hm C A HN R
    have eE : w32 (w32 (170 * t) + b) = 170 * t + b := by rw [w32_id (z := 170 * t) (by omega) (by omega), w32_id (by omega) (by omega)]
    have m0 : 0 ≤ m := by have := pAt_n st m A; omega
    -- behind a step
    have go : ∀ (g : aH) (w4 w5 : Int32) (v6 : Option Value) (m' j v w x : Int) (L' : List (Int × Int)) (st' : List Int), L = (w, x) :: L' → 0 ≤ p → wS g → vw g = up (vw h) 125 j v → w4.toInt = m' → w5.toInt = w32 (p + 1) → m' ≤ 170 → pAt (vw g) m' st' → stpP N w x st = st' → Pt n X zM268 12 [some (.ref 72), some (.int x1), some (.int x2), some (.int x3), some (.int w4), some (.int w5), v6] [] g (qI (fun y h' => wS h' ∧ y = r ∧ ∀ c j, c ≠ 125 → vw h' c j = vw h c j)) := by
      intro g w4 w5 v6 m' j v w x L' st' eL p0 Sg eg g4 g5 gm A' eS
      subst eL
      have hp : p + ((L'.length + 1 : Nat) : Int) = 170 * t + b := hp
      replace g5 := w_1 g5 (by omega) (by omega)
      refine pt_q (ih g w4 w5 v6 m' (p + 1) L' st' Sg g4 g5 (by omega) gm (cAt_k L' _ (fun i _ _ => by rw [eg, up_c (by decide), up_c (by decide)]; exact ⟨rfl, rfl⟩) C.2) A' (fun i => by rw [eg, up_c (by decide)]; exact HN i) (by rw [← eS, ← run_c]; exact R)) ?_
      rintro v' h' ⟨y, ey, p1, p2, p3⟩
      exact ⟨y, ey, p1, p2, fun c i hc => by rw [p3 c i hc, eg, up_c hc]⟩
    refine d268_12 S h1 rfl h3 h4 h5 ⟨fun ge => ?_, fun lt p0 p1 => ?_⟩
    · rw [eE] at ge
      cases L with
      | nil =>
        have R : st = [r] := R
        subst R
        have e1 := pAt_n _ _ A
        have e1 : m = 1 := e1
        refine ⟨S, ?_, fun _ _ _ => rfl⟩
        have := A.1
        rw [e1] at this
        exact this
      | cons z L' =>
        have hp : p + ((L'.length + 1 : Nat) : Int) = 170 * t + b := hp
        omega
    · rw [eE] at lt
      cases L with
      | nil =>
        have hp : p + ((0 : Nat) : Int) = 170 * t + b := hp
        omega
      | cons z L' =>
        obtain ⟨w, x⟩ := z
        obtain ⟨⟨ew, ex⟩, C'⟩ := C
        rw [ew, ex]
        have top : ∀ {i : Int}, 0 ≤ i → i = m - 1 → ∃ a r', st = a :: r' ∧ vw h 125 i = a ∧ pAt (vw h) i r' := fun {i} hi e => by
          cases st with
          | nil =>
            have A : m = 0 := A
            omega
          | cons a r' => exact ⟨a, r', rfl, by rw [e]; exact A.1, by rw [e]; exact A.2⟩
        have push : ∀ (g : aH) (v : Int), vw g = up (vw h) 125 m v → pAt (vw g) (m + 1) (v :: st) := fun g v eg =>
          ⟨by rw [eg, show m + 1 - 1 = m by omega, up_s], by rw [show m + 1 - 1 = m by omega]; exact pAt_k st m (fun i u => by rw [eg, up_j (by omega)]) A⟩
        refine ⟨fun e => ⟨fun z => absurd e z, fun _ a0 a1 g S2 eg w4 w5 v6 g4 g5 => ?_⟩, fun n1 => ⟨fun n2 => ⟨fun n3 => ⟨fun n4 a0 a1 b0' b1 g S2 eg w4 w5 v6 g4 g5 => ?_, fun e a0 a1 g S2 eg w5 v6 g5 => ?_⟩, fun e a0 a1 => ?_⟩, fun e => ⟨fun _ f0 f1 a0 a1 g S2 eg w4 w5 v6 g4 g5 => ?_, fun z => absurd z n1⟩⟩⟩
        · replace g4 := w_1 g4 (by omega) (by omega)
          exact go g w4 w5 v6 (m + 1) m x w x L' _ rfl p0 S2 eg g4 g5 (by omega) (push g x eg) (by unfold stpP; rw [if_pos e])
        · have em : w32 (m + (-1)) = m - 1 := by rw [w32_id (by omega) (by omega)]; omega
          rw [em] at a0 a1 b0' b1 eg g4
          have em2 : w32 (m - 1 - 1) = m - 1 - 1 := w32_id (by omega) (by omega)
          rw [em2] at a0 a1 eg
          obtain ⟨y, r', es, ey, A1⟩ := top (i := m - 1) (by omega) rfl
          rw [es] at R A
          cases r' with
          | nil =>
            have A1 : m - 1 = 0 := A1
            omega
          | cons y2 r2 =>
            have e2 : vw h 125 (m - 1 - 1) = y2 := A1.1
            rw [ey, e2] at eg
            refine go g w4 w5 v6 (m - 1) (m - 1 - 1) _ w x L' (bo w y2 y :: r2) rfl p0 S2 eg g4 g5 (by omega) ⟨by rw [eg, up_s], pAt_k r2 _ (fun i u => by rw [eg, up_j (by omega)]) A1.2⟩ ?_
            rw [es]
            exact stp_b ⟨n1, n2, n3, n4⟩
        · have em : w32 (m - 1) = m - 1 := w32_id (by omega) (by omega)
          rw [em] at a0 a1 eg
          obtain ⟨y, r', es, ey, A1⟩ := top (i := m - 1) (by omega) rfl
          rw [ey] at eg
          refine go g x4 w5 v6 m (m - 1) _ w x L' (w32 (-y) :: r') rfl p0 S2 eg h4 g5 hm ⟨by rw [eg, up_s], pAt_k r' _ (fun i u => by rw [eg, up_j (by omega)]) A1⟩ ?_
          rw [es, e]
          rfl
        · have em : w32 (m - 1) = m - 1 := w32_id (by omega) (by omega)
          rw [em] at a0 a1 ⊢
          obtain ⟨y, r', es, ey, A1⟩ := top (i := m - 1) (by omega) rfl
          rw [ey]
          refine ⟨fun z g S2 eg w5 v6 g5 => ?_, fun z g S2 eg w5 v6 g5 => ?_⟩
          · refine go g x4 w5 v6 m (m - 1) _ w x L' (0 :: r') rfl p0 S2 eg h4 g5 hm ⟨by rw [eg, up_s], pAt_k r' _ (fun i u => by rw [eg, up_j (by omega)]) A1⟩ ?_
            rw [es, e]
            show bI (y = 0) :: r' = _
            rw [bI_f z]
          · refine go g x4 w5 v6 m (m - 1) _ w x L' (1 :: r') rfl p0 S2 eg h4 g5 hm ⟨by rw [eg, up_s], pAt_k r' _ (fun i u => by rw [eg, up_j (by omega)]) A1⟩ ?_
            rw [es, e]
            show bI (y = 0) :: r' = _
            rw [bI_t z]
        · replace g4 := w_1 g4 (by omega) (by omega)
          rw [HN] at eg
          exact go g w4 w5 v6 (m + 1) m (N x) w x L' _ rfl p0 S2 eg g4 g5 (by omega) (push g (N x) eg) (by unfold stpP; rw [if_neg n1, if_pos e])
def pre268 (V : vS) (t a b : Int) : Prop := (0 ≤ t ∧ t ≤ 15) ∧ (0 ≤ a ∧ b ≤ 170) ∧ ∃ L, a + (L.length : Int) = b ∧ cAt V (170 * t + a) L ∧ ∃ r, run (fun j => V 124 j) L [] = [r]
def R268 (V : vS) (t a b y : Int) (V' : vS) : Prop := (∀ L, a + (L.length : Int) = b → cAt V (170 * t + a) L → y = evC (fun j => V 124 j) L) ∧ ∀ c j, c ≠ 125 → V' c j = V c j
theorem cAt_u {V : vS} : ∀ (L M : List (Int × Int)) (b : Int), L.length = M.length → cAt V b L → cAt V b M → L = M
  | [], [], _, _, _, _ => rfl
  | [], _ :: _, _, h, _, _ => by cases h
  | _ :: _, [], _, h, _, _ => by cases h
  | (w, x) :: L, (w', x') :: M, b, h, c, d => by
    have h : L.length + 1 = M.length + 1 := h
    obtain ⟨⟨c1, c2⟩, c3⟩ := c
    obtain ⟨⟨d1, d2⟩, d3⟩ := d
    rw [cAt_u L M (b + 1) (by omega) c3 d3, ← c1, ← c2, ← d1, ← d2]
theorem c_268 {n : Nat} {X : aX} {h : aH} {x1 x2 x3 : Int32} {a1 a2 a3 : Int} (S : wS h) (z1 : x1.toInt = a1) (z2 : x2.toInt = a2) (z3 : x3.toInt = a3) (hp : pre268 (vw h) a1 a2 a3) : Pt n X zM268 0 [some (.ref 72), some (.int x1), some (.int x2), some (.int x3), none, none, none] [] h (qI (fun y h' => wS h' ∧ R268 (vw h) a1 a2 a3 y (vw h'))) := by
  obtain ⟨t0, b0, L, e, C, r, R⟩ := hp
  refine pt_d (d268_0 S z1 z2 z3 (fun w4 w5 u6 g4 g5 => ?_))
  rw [w32_id (z := 170 * a1) (by omega) (by omega), w32_id (by omega) (by omega)] at g5
  refine pt_q (l_268 (N := fun j => vw h 124 j) z1 z3 t0 (by omega) n h w4 w5 u6 0 (170 * a1 + a2) L [] S g4 g5 (by omega) (by decide) C rfl (fun _ => rfl) R) ?_
  rintro v h' ⟨x, ex, p1, p2, p3⟩
  refine ⟨x, ex, p1, fun L' e' C' => ?_, p3⟩
  have : L' = L := cAt_u L' L _ (by omega) C' C
  rw [this]
  unfold evC
  rw [R, p2]
  rfl


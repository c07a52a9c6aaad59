-- ===== the reference reckons on a fresh object (by program) =====
set_option maxHeartbeats 80000000 in
set_option maxRecDepth 20000 in
theorem reckon_fresh {h : aH} (g72 : h.1[72]? = some (.inr (12, zF72))) (g107 : h.1[107]? = some (.inl (0, 576, .inl (fun _ => 0)))) (g108 : h.1[108]? = some (.inl (2, 576, .inl (fun _ => 0)))) (g109 : h.1[109]? = some (.inl (2, 576, .inl (fun _ => 0)))) : ∃ h1 : aH, (∀ (X : aX) (n d : Nat), arun X (n + 200000) (d + 4) zM239 0 [some (.ref 72), some (.int 0), none, none, none] [] h = some (none, h1)) ∧ h1.1.length = h.1.length ∧ h1.2 = h.2 ∧ (∀ k : Nat, k ≠ 72 → k ≠ 107 → k ≠ 108 → k ≠ 109 → h1.1[k]? = h.1[k]?) ∧ h1.1[72]? = some (.inr (12, ((zF72.set 38 (.int 0)).set 39 (.int 0)))) := by
  obtain ⟨y159, e_159, l_159, u_159, r_159, ⟨ya159, a_159⟩, ⟨yb159, b_159⟩, ⟨yc159, c_159⟩⟩ := ff_run (h := ((h.1.set 72 (.inr (12, ((zF72.set 38 (.int 0)).set 39 (.int 0))))), h.2)) (yr := 0) (kk := 0) (gs_eq g72) (gs_ne g107 (by decide)) (gs_ne g108 (by decide)) (gs_ne g109 (by decide)) rfl rfl rfl rfl rfl
  obtain ⟨y160, e_160, l_160, u_160, r_160, ⟨ya160, a_160⟩, ⟨yb160, b_160⟩, ⟨yc160, c_160⟩⟩ := ff_run (h := y159) (yr := 1) (kk := 0) ((r_159 72 (by decide) (by decide) (by decide)).trans (gs_eq g72)) a_159 b_159 c_159 rfl rfl rfl rfl rfl
  obtain ⟨y161, e_161, l_161, u_161, r_161, ⟨ya161, a_161⟩, ⟨yb161, b_161⟩, ⟨yc161, c_161⟩⟩ := ff_run (h := y160) (yr := 2) (kk := 0) ((r_160 72 (by decide) (by decide) (by decide)).trans ((r_159 72 (by decide) (by decide) (by decide)).trans (gs_eq g72))) a_160 b_160 c_160 rfl rfl rfl rfl rfl
  obtain ⟨y162, e_162, l_162, u_162, r_162, ⟨ya162, a_162⟩, ⟨yb162, b_162⟩, ⟨yc162, c_162⟩⟩ := ff_run (h := y161) (yr := 3) (kk := 0) ((r_161 72 (by decide) (by decide) (by decide)).trans ((r_160 72 (by decide) (by decide) (by decide)).trans ((r_159 72 (by decide) (by decide) (by decide)).trans (gs_eq g72)))) a_161 b_161 c_161 rfl rfl rfl rfl rfl
  obtain ⟨y163, e_163, l_163, u_163, r_163, ⟨ya163, a_163⟩, ⟨yb163, b_163⟩, ⟨yc163, c_163⟩⟩ := ff_run (h := y162) (yr := 4) (kk := 0) ((r_162 72 (by decide) (by decide) (by decide)).trans ((r_161 72 (by decide) (by decide) (by decide)).trans ((r_160 72 (by decide) (by decide) (by decide)).trans ((r_159 72 (by decide) (by decide) (by decide)).trans (gs_eq g72))))) a_162 b_162 c_162 rfl rfl rfl rfl rfl
  obtain ⟨y164, e_164, l_164, u_164, r_164, ⟨ya164, a_164⟩, ⟨yb164, b_164⟩, ⟨yc164, c_164⟩⟩ := ff_run (h := y163) (yr := 5) (kk := 0) ((r_163 72 (by decide) (by decide) (by decide)).trans ((r_162 72 (by decide) (by decide) (by decide)).trans ((r_161 72 (by decide) (by decide) (by decide)).trans ((r_160 72 (by decide) (by decide) (by decide)).trans ((r_159 72 (by decide) (by decide) (by decide)).trans (gs_eq g72)))))) a_163 b_163 c_163 rfl rfl rfl rfl rfl
  obtain ⟨y165, e_165, l_165, u_165, r_165, ⟨ya165, a_165⟩, ⟨yb165, b_165⟩, ⟨yc165, c_165⟩⟩ := ff_run (h := y164) (yr := 6) (kk := 0) ((r_164 72 (by decide) (by decide) (by decide)).trans ((r_163 72 (by decide) (by decide) (by decide)).trans ((r_162 72 (by decide) (by decide) (by decide)).trans ((r_161 72 (by decide) (by decide) (by decide)).trans ((r_160 72 (by decide) (by decide) (by decide)).trans ((r_159 72 (by decide) (by decide) (by decide)).trans (gs_eq g72))))))) a_164 b_164 c_164 rfl rfl rfl rfl rfl
  obtain ⟨y166, e_166, l_166, u_166, r_166, ⟨ya166, a_166⟩, ⟨yb166, b_166⟩, ⟨yc166, c_166⟩⟩ := ff_run (h := y165) (yr := 7) (kk := 0) ((r_165 72 (by decide) (by decide) (by decide)).trans ((r_164 72 (by decide) (by decide) (by decide)).trans ((r_163 72 (by decide) (by decide) (by decide)).trans ((r_162 72 (by decide) (by decide) (by decide)).trans ((r_161 72 (by decide) (by decide) (by decide)).trans ((r_160 72 (by decide) (by decide) (by decide)).trans ((r_159 72 (by decide) (by decide) (by decide)).trans (gs_eq g72)))))))) a_165 b_165 c_165 rfl rfl rfl rfl rfl
  obtain ⟨y167, e_167, l_167, u_167, r_167, ⟨ya167, a_167⟩, ⟨yb167, b_167⟩, ⟨yc167, c_167⟩⟩ := ff_run (h := y166) (yr := 8) (kk := 0) ((r_166 72 (by decide) (by decide) (by decide)).trans ((r_165 72 (by decide) (by decide) (by decide)).trans ((r_164 72 (by decide) (by decide) (by decide)).trans ((r_163 72 (by decide) (by decide) (by decide)).trans ((r_162 72 (by decide) (by decide) (by decide)).trans ((r_161 72 (by decide) (by decide) (by decide)).trans ((r_160 72 (by decide) (by decide) (by decide)).trans ((r_159 72 (by decide) (by decide) (by decide)).trans (gs_eq g72))))))))) a_166 b_166 c_166 rfl rfl rfl rfl rfl
  obtain ⟨y168, e_168, l_168, u_168, r_168, ⟨ya168, a_168⟩, ⟨yb168, b_168⟩, ⟨yc168, c_168⟩⟩ := ff_run (h := y167) (yr := 9) (kk := 0) ((r_167 72 (by decide) (by decide) (by decide)).trans ((r_166 72 (by decide) (by decide) (by decide)).trans ((r_165 72 (by decide) (by decide) (by decide)).trans ((r_164 72 (by decide) (by decide) (by decide)).trans ((r_163 72 (by decide) (by decide) (by decide)).trans ((r_162 72 (by decide) (by decide) (by decide)).trans ((r_161 72 (by decide) (by decide) (by decide)).trans ((r_160 72 (by decide) (by decide) (by decide)).trans ((r_159 72 (by decide) (by decide) (by decide)).trans (gs_eq g72)))))))))) a_167 b_167 c_167 rfl rfl rfl rfl rfl
  refine ⟨y168, fun X n d => ?_, ?_, ?_, fun k k1 k2 k3 k4 => ?_, ((r_168 72 (by decide) (by decide) (by decide)).trans ((r_167 72 (by decide) (by decide) (by decide)).trans ((r_166 72 (by decide) (by decide) (by decide)).trans ((r_165 72 (by decide) (by decide) (by decide)).trans ((r_164 72 (by decide) (by decide) (by decide)).trans ((r_163 72 (by decide) (by decide) (by decide)).trans ((r_162 72 (by decide) (by decide) (by decide)).trans ((r_161 72 (by decide) (by decide) (by decide)).trans ((r_160 72 (by decide) (by decide) (by decide)).trans ((r_159 72 (by decide) (by decide) (by decide)).trans (gs_eq g72)))))))))))⟩
  ·
    refine (r_aloadn f239_0 rfl).trans ?_
    refine (r_get (v := .int 1) f239_1 g72 rfl).trans ?_
    refine (r_if_ne_t f239_4 (by decide)).trans ?_
    refine (r_aloadn f239_16 rfl).trans ?_
    refine (r_iconst (v := 0) f239_17 rfl).trans ?_
    refine (r_put (h' := ((h.1.set 72 (.inr (12, (zF72.set 38 (.int 0))))), h.2)) f239_18 g72 rfl rfl).trans ?_
    refine (r_aloadn f239_21 rfl).trans ?_
    refine (r_iloadn f239_22 rfl).trans ?_
    refine (r_put (h' := ((h.1.set 72 (.inr (12, ((zF72.set 38 (.int 0)).set 39 (.int 0))))), h.2)) f239_23 (gs_eq g72) rfl hss).trans ?_
    refine (r_iconst (v := 0) f239_26 rfl).trans ?_
    refine (r_istoren (L' := [some (.ref 72), some (.int 0), some (.int 0), none, none]) f239_27 rfl rfl).trans ?_
    refine (r_iloadn f239_28 rfl).trans ?_
    refine (r_aloadn f239_29 rfl).trans ?_
    refine (r_get (v := .int 0) f239_30 (gs_eq g72) rfl).trans ?_
    refine (r_icmp_ge_t f239_33 (by decide)).trans ?_
    refine (r_iconst (v := 0) f239_54 rfl).trans ?_
    refine (r_istoren (L' := [some (.ref 72), some (.int 0), some (.int 0), none, none]) f239_55 rfl rfl).trans ?_
    refine (r_iloadn f239_56 rfl).trans ?_
    refine (r_bipush (v := 10) f239_57 rfl).trans ?_
    refine (r_icmp_ge_f f239_59 (by decide)).trans ?_
    refine (r_aloadn f239_62 rfl).trans ?_
    refine (r_iloadn f239_63 rfl).trans ?_
    refine (r_iloadn f239_64 rfl).trans ?_
    refine (r_virt (as := [.int 0, .int 0]) (v := none) (h1 := y159) f239_65 (gs_eq g72) zg236 rfl rfl rfl rfl rfl rfl (e_159 X (n + 183217) (d + 1))).trans ?_
    refine (r_iconst (v := 0) f239_68 rfl).trans ?_
    refine (r_istoren (L' := [some (.ref 72), some (.int 0), some (.int 0), some (.int 0), none]) f239_69 rfl rfl).trans ?_
    refine (r_iloadn f239_70 rfl).trans ?_
    refine (r_aloadn f239_71 rfl).trans ?_
    refine (r_get (v := .int 0) f239_72 ((r_159 72 (by decide) (by decide) (by decide)).trans (gs_eq g72)) rfl).trans ?_
    refine (r_icmp_ge_t f239_75 (by decide)).trans ?_
    refine (r_iinc (v := 1) (L' := [some (.ref 72), some (.int 0), some (.int 1), some (.int 0), none]) f239_143 rfl rfl rfl).trans ?_
    refine (r_goto f239_146).trans ?_
    refine (r_iloadn f239_56 rfl).trans ?_
    refine (r_bipush (v := 10) f239_57 rfl).trans ?_
    refine (r_icmp_ge_f f239_59 (by decide)).trans ?_
    refine (r_aloadn f239_62 rfl).trans ?_
    refine (r_iloadn f239_63 rfl).trans ?_
    refine (r_iloadn f239_64 rfl).trans ?_
    refine (r_virt (as := [.int 1, .int 0]) (v := none) (h1 := y160) f239_65 ((r_159 72 (by decide) (by decide) (by decide)).trans (gs_eq g72)) zg236 rfl rfl rfl rfl rfl rfl (e_160 X (n + 183202) (d + 1))).trans ?_
    refine (r_iconst (v := 0) f239_68 rfl).trans ?_
    refine (r_istoren (L' := [some (.ref 72), some (.int 0), some (.int 1), some (.int 0), none]) f239_69 rfl rfl).trans ?_
    refine (r_iloadn f239_70 rfl).trans ?_
    refine (r_aloadn f239_71 rfl).trans ?_
    refine (r_get (v := .int 0) f239_72 ((r_160 72 (by decide) (by decide) (by decide)).trans ((r_159 72 (by decide) (by decide) (by decide)).trans (gs_eq g72))) rfl).trans ?_
    refine (r_icmp_ge_t f239_75 (by decide)).trans ?_
    refine (r_iinc (v := 2) (L' := [some (.ref 72), some (.int 0), some (.int 2), some (.int 0), none]) f239_143 rfl rfl rfl).trans ?_
    refine (r_goto f239_146).trans ?_
    refine (r_iloadn f239_56 rfl).trans ?_
    refine (r_bipush (v := 10) f239_57 rfl).trans ?_
    refine (r_icmp_ge_f f239_59 (by decide)).trans ?_
    refine (r_aloadn f239_62 rfl).trans ?_
    refine (r_iloadn f239_63 rfl).trans ?_
    refine (r_iloadn f239_64 rfl).trans ?_
    refine (r_virt (as := [.int 2, .int 0]) (v := none) (h1 := y161) f239_65 ((r_160 72 (by decide) (by decide) (by decide)).trans ((r_159 72 (by decide) (by decide) (by decide)).trans (gs_eq g72))) zg236 rfl rfl rfl rfl rfl rfl (e_161 X (n + 183187) (d + 1))).trans ?_
    refine (r_iconst (v := 0) f239_68 rfl).trans ?_
    refine (r_istoren (L' := [some (.ref 72), some (.int 0), some (.int 2), some (.int 0), none]) f239_69 rfl rfl).trans ?_
    refine (r_iloadn f239_70 rfl).trans ?_
    refine (r_aloadn f239_71 rfl).trans ?_
    refine (r_get (v := .int 0) f239_72 ((r_161 72 (by decide) (by decide) (by decide)).trans ((r_160 72 (by decide) (by decide) (by decide)).trans ((r_159 72 (by decide) (by decide) (by decide)).trans (gs_eq g72)))) rfl).trans ?_
    refine (r_icmp_ge_t f239_75 (by decide)).trans ?_
    refine (r_iinc (v := 3) (L' := [some (.ref 72), some (.int 0), some (.int 3), some (.int 0), none]) f239_143 rfl rfl rfl).trans ?_
    refine (r_goto f239_146).trans ?_
    refine (r_iloadn f239_56 rfl).trans ?_
    refine (r_bipush (v := 10) f239_57 rfl).trans ?_
    refine (r_icmp_ge_f f239_59 (by decide)).trans ?_
    refine (r_aloadn f239_62 rfl).trans ?_
    refine (r_iloadn f239_63 rfl).trans ?_
    refine (r_iloadn f239_64 rfl).trans ?_
    refine (r_virt (as := [.int 3, .int 0]) (v := none) (h1 := y162) f239_65 ((r_161 72 (by decide) (by decide) (by decide)).trans ((r_160 72 (by decide) (by decide) (by decide)).trans ((r_159 72 (by decide) (by decide) (by decide)).trans (gs_eq g72)))) zg236 rfl rfl rfl rfl rfl rfl (e_162 X (n + 183172) (d + 1))).trans ?_
    refine (r_iconst (v := 0) f239_68 rfl).trans ?_
    refine (r_istoren (L' := [some (.ref 72), some (.int 0), some (.int 3), some (.int 0), none]) f239_69 rfl rfl).trans ?_
    refine (r_iloadn f239_70 rfl).trans ?_
    refine (r_aloadn f239_71 rfl).trans ?_
    refine (r_get (v := .int 0) f239_72 ((r_162 72 (by decide) (by decide) (by decide)).trans ((r_161 72 (by decide) (by decide) (by decide)).trans ((r_160 72 (by decide) (by decide) (by decide)).trans ((r_159 72 (by decide) (by decide) (by decide)).trans (gs_eq g72))))) rfl).trans ?_
    refine (r_icmp_ge_t f239_75 (by decide)).trans ?_
    refine (r_iinc (v := 4) (L' := [some (.ref 72), some (.int 0), some (.int 4), some (.int 0), none]) f239_143 rfl rfl rfl).trans ?_
    refine (r_goto f239_146).trans ?_
    refine (r_iloadn f239_56 rfl).trans ?_
    refine (r_bipush (v := 10) f239_57 rfl).trans ?_
    refine (r_icmp_ge_f f239_59 (by decide)).trans ?_
    refine (r_aloadn f239_62 rfl).trans ?_
    refine (r_iloadn f239_63 rfl).trans ?_
    refine (r_iloadn f239_64 rfl).trans ?_
    refine (r_virt (as := [.int 4, .int 0]) (v := none) (h1 := y163) f239_65 ((r_162 72 (by decide) (by decide) (by decide)).trans ((r_161 72 (by decide) (by decide) (by decide)).trans ((r_160 72 (by decide) (by decide) (by decide)).trans ((r_159 72 (by decide) (by decide) (by decide)).trans (gs_eq g72))))) zg236 rfl rfl rfl rfl rfl rfl (e_163 X (n + 183157) (d + 1))).trans ?_
    refine (r_iconst (v := 0) f239_68 rfl).trans ?_
    refine (r_istoren (L' := [some (.ref 72), some (.int 0), some (.int 4), some (.int 0), none]) f239_69 rfl rfl).trans ?_
    refine (r_iloadn f239_70 rfl).trans ?_
    refine (r_aloadn f239_71 rfl).trans ?_
    refine (r_get (v := .int 0) f239_72 ((r_163 72 (by decide) (by decide) (by decide)).trans ((r_162 72 (by decide) (by decide) (by decide)).trans ((r_161 72 (by decide) (by decide) (by decide)).trans ((r_160 72 (by decide) (by decide) (by decide)).trans ((r_159 72 (by decide) (by decide) (by decide)).trans (gs_eq g72)))))) rfl).trans ?_
    refine (r_icmp_ge_t f239_75 (by decide)).trans ?_
    refine (r_iinc (v := 5) (L' := [some (.ref 72), some (.int 0), some (.int 5), some (.int 0), none]) f239_143 rfl rfl rfl).trans ?_
    refine (r_goto f239_146).trans ?_
    refine (r_iloadn f239_56 rfl).trans ?_
    refine (r_bipush (v := 10) f239_57 rfl).trans ?_
    refine (r_icmp_ge_f f239_59 (by decide)).trans ?_
    refine (r_aloadn f239_62 rfl).trans ?_
    refine (r_iloadn f239_63 rfl).trans ?_
    refine (r_iloadn f239_64 rfl).trans ?_
    refine (r_virt (as := [.int 5, .int 0]) (v := none) (h1 := y164) f239_65 ((r_163 72 (by decide) (by decide) (by decide)).trans ((r_162 72 (by decide) (by decide) (by decide)).trans ((r_161 72 (by decide) (by decide) (by decide)).trans ((r_160 72 (by decide) (by decide) (by decide)).trans ((r_159 72 (by decide) (by decide) (by decide)).trans (gs_eq g72)))))) zg236 rfl rfl rfl rfl rfl rfl (e_164 X (n + 183142) (d + 1))).trans ?_
    refine (r_iconst (v := 0) f239_68 rfl).trans ?_
    refine (r_istoren (L' := [some (.ref 72), some (.int 0), some (.int 5), some (.int 0), none]) f239_69 rfl rfl).trans ?_
    refine (r_iloadn f239_70 rfl).trans ?_
    refine (r_aloadn f239_71 rfl).trans ?_
    refine (r_get (v := .int 0) f239_72 ((r_164 72 (by decide) (by decide) (by decide)).trans ((r_163 72 (by decide) (by decide) (by decide)).trans ((r_162 72 (by decide) (by decide) (by decide)).trans ((r_161 72 (by decide) (by decide) (by decide)).trans ((r_160 72 (by decide) (by decide) (by decide)).trans ((r_159 72 (by decide) (by decide) (by decide)).trans (gs_eq g72))))))) rfl).trans ?_
    refine (r_icmp_ge_t f239_75 (by decide)).trans ?_
    refine (r_iinc (v := 6) (L' := [some (.ref 72), some (.int 0), some (.int 6), some (.int 0), none]) f239_143 rfl rfl rfl).trans ?_
    refine (r_goto f239_146).trans ?_
    refine (r_iloadn f239_56 rfl).trans ?_
    refine (r_bipush (v := 10) f239_57 rfl).trans ?_
    refine (r_icmp_ge_f f239_59 (by decide)).trans ?_
    refine (r_aloadn f239_62 rfl).trans ?_
    refine (r_iloadn f239_63 rfl).trans ?_
    refine (r_iloadn f239_64 rfl).trans ?_
    refine (r_virt (as := [.int 6, .int 0]) (v := none) (h1 := y165) f239_65 ((r_164 72 (by decide) (by decide) (by decide)).trans ((r_163 72 (by decide) (by decide) (by decide)).trans ((r_162 72 (by decide) (by decide) (by decide)).trans ((r_161 72 (by decide) (by decide) (by decide)).trans ((r_160 72 (by decide) (by decide) (by decide)).trans ((r_159 72 (by decide) (by decide) (by decide)).trans (gs_eq g72))))))) zg236 rfl rfl rfl rfl rfl rfl (e_165 X (n + 183127) (d + 1))).trans ?_
    refine (r_iconst (v := 0) f239_68 rfl).trans ?_
    refine (r_istoren (L' := [some (.ref 72), some (.int 0), some (.int 6), some (.int 0), none]) f239_69 rfl rfl).trans ?_
    refine (r_iloadn f239_70 rfl).trans ?_
    refine (r_aloadn f239_71 rfl).trans ?_
    refine (r_get (v := .int 0) f239_72 ((r_165 72 (by decide) (by decide) (by decide)).trans ((r_164 72 (by decide) (by decide) (by decide)).trans ((r_163 72 (by decide) (by decide) (by decide)).trans ((r_162 72 (by decide) (by decide) (by decide)).trans ((r_161 72 (by decide) (by decide) (by decide)).trans ((r_160 72 (by decide) (by decide) (by decide)).trans ((r_159 72 (by decide) (by decide) (by decide)).trans (gs_eq g72)))))))) rfl).trans ?_
    refine (r_icmp_ge_t f239_75 (by decide)).trans ?_
    refine (r_iinc (v := 7) (L' := [some (.ref 72), some (.int 0), some (.int 7), some (.int 0), none]) f239_143 rfl rfl rfl).trans ?_
    refine (r_goto f239_146).trans ?_
    refine (r_iloadn f239_56 rfl).trans ?_
    refine (r_bipush (v := 10) f239_57 rfl).trans ?_
    refine (r_icmp_ge_f f239_59 (by decide)).trans ?_
    refine (r_aloadn f239_62 rfl).trans ?_
    refine (r_iloadn f239_63 rfl).trans ?_
    refine (r_iloadn f239_64 rfl).trans ?_
    refine (r_virt (as := [.int 7, .int 0]) (v := none) (h1 := y166) f239_65 ((r_165 72 (by decide) (by decide) (by decide)).trans ((r_164 72 (by decide) (by decide) (by decide)).trans ((r_163 72 (by decide) (by decide) (by decide)).trans ((r_162 72 (by decide) (by decide) (by decide)).trans ((r_161 72 (by decide) (by decide) (by decide)).trans ((r_160 72 (by decide) (by decide) (by decide)).trans ((r_159 72 (by decide) (by decide) (by decide)).trans (gs_eq g72)))))))) zg236 rfl rfl rfl rfl rfl rfl (e_166 X (n + 183112) (d + 1))).trans ?_
    refine (r_iconst (v := 0) f239_68 rfl).trans ?_
    refine (r_istoren (L' := [some (.ref 72), some (.int 0), some (.int 7), some (.int 0), none]) f239_69 rfl rfl).trans ?_
    refine (r_iloadn f239_70 rfl).trans ?_
    refine (r_aloadn f239_71 rfl).trans ?_
    refine (r_get (v := .int 0) f239_72 ((r_166 72 (by decide) (by decide) (by decide)).trans ((r_165 72 (by decide) (by decide) (by decide)).trans ((r_164 72 (by decide) (by decide) (by decide)).trans ((r_163 72 (by decide) (by decide) (by decide)).trans ((r_162 72 (by decide) (by decide) (by decide)).trans ((r_161 72 (by decide) (by decide) (by decide)).trans ((r_160 72 (by decide) (by decide) (by decide)).trans ((r_159 72 (by decide) (by decide) (by decide)).trans (gs_eq g72))))))))) rfl).trans ?_
    refine (r_icmp_ge_t f239_75 (by decide)).trans ?_
    refine (r_iinc (v := 8) (L' := [some (.ref 72), some (.int 0), some (.int 8), some (.int 0), none]) f239_143 rfl rfl rfl).trans ?_
    refine (r_goto f239_146).trans ?_
    refine (r_iloadn f239_56 rfl).trans ?_
    refine (r_bipush (v := 10) f239_57 rfl).trans ?_
    refine (r_icmp_ge_f f239_59 (by decide)).trans ?_
    refine (r_aloadn f239_62 rfl).trans ?_
    refine (r_iloadn f239_63 rfl).trans ?_
    refine (r_iloadn f239_64 rfl).trans ?_
    refine (r_virt (as := [.int 8, .int 0]) (v := none) (h1 := y167) f239_65 ((r_166 72 (by decide) (by decide) (by decide)).trans ((r_165 72 (by decide) (by decide) (by decide)).trans ((r_164 72 (by decide) (by decide) (by decide)).trans ((r_163 72 (by decide) (by decide) (by decide)).trans ((r_162 72 (by decide) (by decide) (by decide)).trans ((r_161 72 (by decide) (by decide) (by decide)).trans ((r_160 72 (by decide) (by decide) (by decide)).trans ((r_159 72 (by decide) (by decide) (by decide)).trans (gs_eq g72))))))))) zg236 rfl rfl rfl rfl rfl rfl (e_167 X (n + 183097) (d + 1))).trans ?_
    refine (r_iconst (v := 0) f239_68 rfl).trans ?_
    refine (r_istoren (L' := [some (.ref 72), some (.int 0), some (.int 8), some (.int 0), none]) f239_69 rfl rfl).trans ?_
    refine (r_iloadn f239_70 rfl).trans ?_
    refine (r_aloadn f239_71 rfl).trans ?_
    refine (r_get (v := .int 0) f239_72 ((r_167 72 (by decide) (by decide) (by decide)).trans ((r_166 72 (by decide) (by decide) (by decide)).trans ((r_165 72 (by decide) (by decide) (by decide)).trans ((r_164 72 (by decide) (by decide) (by decide)).trans ((r_163 72 (by decide) (by decide) (by decide)).trans ((r_162 72 (by decide) (by decide) (by decide)).trans ((r_161 72 (by decide) (by decide) (by decide)).trans ((r_160 72 (by decide) (by decide) (by decide)).trans ((r_159 72 (by decide) (by decide) (by decide)).trans (gs_eq g72)))))))))) rfl).trans ?_
    refine (r_icmp_ge_t f239_75 (by decide)).trans ?_
    refine (r_iinc (v := 9) (L' := [some (.ref 72), some (.int 0), some (.int 9), some (.int 0), none]) f239_143 rfl rfl rfl).trans ?_
    refine (r_goto f239_146).trans ?_
    refine (r_iloadn f239_56 rfl).trans ?_
    refine (r_bipush (v := 10) f239_57 rfl).trans ?_
    refine (r_icmp_ge_f f239_59 (by decide)).trans ?_
    refine (r_aloadn f239_62 rfl).trans ?_
    refine (r_iloadn f239_63 rfl).trans ?_
    refine (r_iloadn f239_64 rfl).trans ?_
    refine (r_virt (as := [.int 9, .int 0]) (v := none) (h1 := y168) f239_65 ((r_167 72 (by decide) (by decide) (by decide)).trans ((r_166 72 (by decide) (by decide) (by decide)).trans ((r_165 72 (by decide) (by decide) (by decide)).trans ((r_164 72 (by decide) (by decide) (by decide)).trans ((r_163 72 (by decide) (by decide) (by decide)).trans ((r_162 72 (by decide) (by decide) (by decide)).trans ((r_161 72 (by decide) (by decide) (by decide)).trans ((r_160 72 (by decide) (by decide) (by decide)).trans ((r_159 72 (by decide) (by decide) (by decide)).trans (gs_eq g72)))))))))) zg236 rfl rfl rfl rfl rfl rfl (e_168 X (n + 183082) (d + 1))).trans ?_
    refine (r_iconst (v := 0) f239_68 rfl).trans ?_
    refine (r_istoren (L' := [some (.ref 72), some (.int 0), some (.int 9), some (.int 0), none]) f239_69 rfl rfl).trans ?_
    refine (r_iloadn f239_70 rfl).trans ?_
    refine (r_aloadn f239_71 rfl).trans ?_
    refine (r_get (v := .int 0) f239_72 ((r_168 72 (by decide) (by decide) (by decide)).trans ((r_167 72 (by decide) (by decide) (by decide)).trans ((r_166 72 (by decide) (by decide) (by decide)).trans ((r_165 72 (by decide) (by decide) (by decide)).trans ((r_164 72 (by decide) (by decide) (by decide)).trans ((r_163 72 (by decide) (by decide) (by decide)).trans ((r_162 72 (by decide) (by decide) (by decide)).trans ((r_161 72 (by decide) (by decide) (by decide)).trans ((r_160 72 (by decide) (by decide) (by decide)).trans ((r_159 72 (by decide) (by decide) (by decide)).trans (gs_eq g72))))))))))) rfl).trans ?_
    refine (r_icmp_ge_t f239_75 (by decide)).trans ?_
    refine (r_iinc (v := 10) (L' := [some (.ref 72), some (.int 0), some (.int 10), some (.int 0), none]) f239_143 rfl rfl rfl).trans ?_
    refine (r_goto f239_146).trans ?_
    refine (r_iloadn f239_56 rfl).trans ?_
    refine (r_bipush (v := 10) f239_57 rfl).trans ?_
    refine (r_icmp_ge_t f239_59 (by decide)).trans ?_
    exact r_vreturn f239_149 rfl
  · simp only [l_159, l_160, l_161, l_162, l_163, l_164, l_165, l_166, l_167, l_168, List.length_set]
  · simp only [u_159, u_160, u_161, u_162, u_163, u_164, u_165, u_166, u_167, u_168]
  · rw [r_168 k k2 k3 k4, r_167 k k2 k3 k4, r_166 k k2 k3 k4, r_165 k k2 k3 k4, r_164 k k2 k3 k4, r_163 k k2 k3 k4, r_162 k k2 k3 k4, r_161 k k2 k3 k4, r_160 k k2 k3 k4, r_159 k k2 k3 k4]
    simp only [List.getElem?_set, if_neg (Ne.symm k1)]

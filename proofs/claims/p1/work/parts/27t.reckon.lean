-- ===== the reference reckons on a fresh object (by program) =====
set_option maxHeartbeats 80000000 in
set_option maxRecDepth 20000 in
theorem reckon_fresh {h : aH} (g72 : h.1[72]? = some (.inr (12, zF72))) (g107 : h.1[107]? = some (.inl (0, 576, .inl (fun _ => 0)))) (g108 : h.1[108]? = some (.inl (2, 576, .inl (fun _ => 0)))) (g109 : h.1[109]? = some (.inl (2, 576, .inl (fun _ => 0)))) : ∃ h1 : aH, (∀ (X : aX) (n d : Nat), arun X (n + 200000) (d + 4) zM239 0 [some (.ref 72), some (.int 0), none, none, none] [] h = some (none, h1)) ∧ h1.1.length = h.1.length ∧ h1.2 = h.2 ∧ (∀ k : Nat, k ≠ 72 → k ≠ 107 → k ≠ 108 → k ≠ 109 → h1.1[k]? = h.1[k]?) ∧ h1.1[72]? = some (.inr (12, ((zF72.set 38 (.int 0)).set 39 (.int 0)))) := by
  obtain ⟨y5, e_5, l_5, u_5, r_5, ⟨ya5, a_5⟩, ⟨yb5, b_5⟩, ⟨yc5, c_5⟩⟩ := ff_run (h := ((h.1.set 72 (.inr (12, ((zF72.set 38 (.int 0)).set 39 (.int 0))))), h.2)) (yr := 0) (kk := 0) (gs_eq g72) (gs_ne g107 (by decide)) (gs_ne g108 (by decide)) (gs_ne g109 (by decide)) rfl rfl rfl rfl rfl
  obtain ⟨y6, e_6, l_6, u_6, r_6, ⟨ya6, a_6⟩, ⟨yb6, b_6⟩, ⟨yc6, c_6⟩⟩ := ff_run (h := y5) (yr := 1) (kk := 0) ((r_5 72 (by decide) (by decide) (by decide)).trans (gs_eq g72)) a_5 b_5 c_5 rfl rfl rfl rfl rfl
  obtain ⟨y7, e_7, l_7, u_7, r_7, ⟨ya7, a_7⟩, ⟨yb7, b_7⟩, ⟨yc7, c_7⟩⟩ := ff_run (h := y6) (yr := 2) (kk := 0) ((r_6 72 (by decide) (by decide) (by decide)).trans ((r_5 72 (by decide) (by decide) (by decide)).trans (gs_eq g72))) a_6 b_6 c_6 rfl rfl rfl rfl rfl
  obtain ⟨y8, e_8, l_8, u_8, r_8, ⟨ya8, a_8⟩, ⟨yb8, b_8⟩, ⟨yc8, c_8⟩⟩ := ff_run (h := y7) (yr := 3) (kk := 0) ((r_7 72 (by decide) (by decide) (by decide)).trans ((r_6 72 (by decide) (by decide) (by decide)).trans ((r_5 72 (by decide) (by decide) (by decide)).trans (gs_eq g72)))) a_7 b_7 c_7 rfl rfl rfl rfl rfl
  obtain ⟨y9, e_9, l_9, u_9, r_9, ⟨ya9, a_9⟩, ⟨yb9, b_9⟩, ⟨yc9, c_9⟩⟩ := ff_run (h := y8) (yr := 4) (kk := 0) ((r_8 72 (by decide) (by decide) (by decide)).trans ((r_7 72 (by decide) (by decide) (by decide)).trans ((r_6 72 (by decide) (by decide) (by decide)).trans ((r_5 72 (by decide) (by decide) (by decide)).trans (gs_eq g72))))) a_8 b_8 c_8 rfl rfl rfl rfl rfl
  obtain ⟨y10, e_10, l_10, u_10, r_10, ⟨ya10, a_10⟩, ⟨yb10, b_10⟩, ⟨yc10, c_10⟩⟩ := ff_run (h := y9) (yr := 5) (kk := 0) ((r_9 72 (by decide) (by decide) (by decide)).trans ((r_8 72 (by decide) (by decide) (by decide)).trans ((r_7 72 (by decide) (by decide) (by decide)).trans ((r_6 72 (by decide) (by decide) (by decide)).trans ((r_5 72 (by decide) (by decide) (by decide)).trans (gs_eq g72)))))) a_9 b_9 c_9 rfl rfl rfl rfl rfl
  obtain ⟨y11, e_11, l_11, u_11, r_11, ⟨ya11, a_11⟩, ⟨yb11, b_11⟩, ⟨yc11, c_11⟩⟩ := ff_run (h := y10) (yr := 6) (kk := 0) ((r_10 72 (by decide) (by decide) (by decide)).trans ((r_9 72 (by decide) (by decide) (by decide)).trans ((r_8 72 (by decide) (by decide) (by decide)).trans ((r_7 72 (by decide) (by decide) (by decide)).trans ((r_6 72 (by decide) (by decide) (by decide)).trans ((r_5 72 (by decide) (by decide) (by decide)).trans (gs_eq g72))))))) a_10 b_10 c_10 rfl rfl rfl rfl rfl
  obtain ⟨y12, e_12, l_12, u_12, r_12, ⟨ya12, a_12⟩, ⟨yb12, b_12⟩, ⟨yc12, c_12⟩⟩ := ff_run (h := y11) (yr := 7) (kk := 0) ((r_11 72 (by decide) (by decide) (by decide)).trans ((r_10 72 (by decide) (by decide) (by decide)).trans ((r_9 72 (by decide) (by decide) (by decide)).trans ((r_8 72 (by decide) (by decide) (by decide)).trans ((r_7 72 (by decide) (by decide) (by decide)).trans ((r_6 72 (by decide) (by decide) (by decide)).trans ((r_5 72 (by decide) (by decide) (by decide)).trans (gs_eq g72)))))))) a_11 b_11 c_11 rfl rfl rfl rfl rfl
  obtain ⟨y13, e_13, l_13, u_13, r_13, ⟨ya13, a_13⟩, ⟨yb13, b_13⟩, ⟨yc13, c_13⟩⟩ := ff_run (h := y12) (yr := 8) (kk := 0) ((r_12 72 (by decide) (by decide) (by decide)).trans ((r_11 72 (by decide) (by decide) (by decide)).trans ((r_10 72 (by decide) (by decide) (by decide)).trans ((r_9 72 (by decide) (by decide) (by decide)).trans ((r_8 72 (by decide) (by decide) (by decide)).trans ((r_7 72 (by decide) (by decide) (by decide)).trans ((r_6 72 (by decide) (by decide) (by decide)).trans ((r_5 72 (by decide) (by decide) (by decide)).trans (gs_eq g72))))))))) a_12 b_12 c_12 rfl rfl rfl rfl rfl
  obtain ⟨y14, e_14, l_14, u_14, r_14, ⟨ya14, a_14⟩, ⟨yb14, b_14⟩, ⟨yc14, c_14⟩⟩ := ff_run (h := y13) (yr := 9) (kk := 0) ((r_13 72 (by decide) (by decide) (by decide)).trans ((r_12 72 (by decide) (by decide) (by decide)).trans ((r_11 72 (by decide) (by decide) (by decide)).trans ((r_10 72 (by decide) (by decide) (by decide)).trans ((r_9 72 (by decide) (by decide) (by decide)).trans ((r_8 72 (by decide) (by decide) (by decide)).trans ((r_7 72 (by decide) (by decide) (by decide)).trans ((r_6 72 (by decide) (by decide) (by decide)).trans ((r_5 72 (by decide) (by decide) (by decide)).trans (gs_eq g72)))))))))) a_13 b_13 c_13 rfl rfl rfl rfl rfl
  refine ⟨y14, fun X n d => ?_, ?_, ?_, fun k k1 k2 k3 k4 => ?_, ((r_14 72 (by decide) (by decide) (by decide)).trans ((r_13 72 (by decide) (by decide) (by decide)).trans ((r_12 72 (by decide) (by decide) (by decide)).trans ((r_11 72 (by decide) (by decide) (by decide)).trans ((r_10 72 (by decide) (by decide) (by decide)).trans ((r_9 72 (by decide) (by decide) (by decide)).trans ((r_8 72 (by decide) (by decide) (by decide)).trans ((r_7 72 (by decide) (by decide) (by decide)).trans ((r_6 72 (by decide) (by decide) (by decide)).trans ((r_5 72 (by decide) (by decide) (by decide)).trans (gs_eq g72)))))))))))⟩
  ·
    refine (r_aloadn f239_0 rfl).trans ?_
    refine (r_get (v := .int 1) f239_1 g72 rfl).trans ?_
    refine (r_if_ne_t f239_4 (by decide)).trans ?_
    refine (r_aloadn f239_16 rfl).trans ?_
    refine (r_iconst (v := 0) f239_17 rfl).trans ?_
    refine (r_put (h' := ((h.1.set 72 (.inr (12, (zF72.set 38 (.int 0))))), h.2)) f239_18 g72 rfl rfl).trans ?_
    refine (r_aloadn f239_21 rfl).trans ?_
    refine (r_iloadn f239_22 rfl).trans ?_
    refine (r_put (h' := ((h.1.set 72 (.inr (12, ((zF72.set 38 (.int 0)).set 39 (.int 0))))), h.2)) f239_23 (gs_eq g72) rfl hss).trans ?_
    refine (r_iconst (v := 0) f239_26 rfl).trans ?_
    refine (r_istoren (L' := [some (.ref 72), some (.int 0), some (.int 0), none, none]) f239_27 rfl rfl).trans ?_
    refine (r_iloadn f239_28 rfl).trans ?_
    refine (r_aloadn f239_29 rfl).trans ?_
    refine (r_get (v := .int 0) f239_30 (gs_eq g72) rfl).trans ?_
    refine (r_icmp_ge_t f239_33 (by decide)).trans ?_
    refine (r_iconst (v := 0) f239_54 rfl).trans ?_
    refine (r_istoren (L' := [some (.ref 72), some (.int 0), some (.int 0), none, none]) f239_55 rfl rfl).trans ?_
    refine (r_iloadn f239_56 rfl).trans ?_
    refine (r_bipush (v := 10) f239_57 rfl).trans ?_
    refine (r_icmp_ge_f f239_59 (by decide)).trans ?_
    refine (r_aloadn f239_62 rfl).trans ?_
    refine (r_iloadn f239_63 rfl).trans ?_
    refine (r_iloadn f239_64 rfl).trans ?_
    refine (r_virt (as := [.int 0, .int 0]) (v := none) (h1 := y5) f239_65 (gs_eq g72) zg236 rfl rfl rfl rfl rfl rfl (e_5 X (n + 183217) (d + 1))).trans ?_
    refine (r_iconst (v := 0) f239_68 rfl).trans ?_
    refine (r_istoren (L' := [some (.ref 72), some (.int 0), some (.int 0), some (.int 0), none]) f239_69 rfl rfl).trans ?_
    refine (r_iloadn f239_70 rfl).trans ?_
    refine (r_aloadn f239_71 rfl).trans ?_
    refine (r_get (v := .int 0) f239_72 ((r_5 72 (by decide) (by decide) (by decide)).trans (gs_eq g72)) rfl).trans ?_
    refine (r_icmp_ge_t f239_75 (by decide)).trans ?_
    refine (r_iinc (v := 1) (L' := [some (.ref 72), some (.int 0), some (.int 1), some (.int 0), none]) f239_143 rfl rfl rfl).trans ?_
    refine (r_goto f239_146).trans ?_
    refine (r_iloadn f239_56 rfl).trans ?_
    refine (r_bipush (v := 10) f239_57 rfl).trans ?_
    refine (r_icmp_ge_f f239_59 (by decide)).trans ?_
    refine (r_aloadn f239_62 rfl).trans ?_
    refine (r_iloadn f239_63 rfl).trans ?_
    refine (r_iloadn f239_64 rfl).trans ?_
    refine (r_virt (as := [.int 1, .int 0]) (v := none) (h1 := y6) f239_65 ((r_5 72 (by decide) (by decide) (by decide)).trans (gs_eq g72)) zg236 rfl rfl rfl rfl rfl rfl (e_6 X (n + 183202) (d + 1))).trans ?_
    refine (r_iconst (v := 0) f239_68 rfl).trans ?_
    refine (r_istoren (L' := [some (.ref 72), some (.int 0), some (.int 1), some (.int 0), none]) f239_69 rfl rfl).trans ?_
    refine (r_iloadn f239_70 rfl).trans ?_
    refine (r_aloadn f239_71 rfl).trans ?_
    refine (r_get (v := .int 0) f239_72 ((r_6 72 (by decide) (by decide) (by decide)).trans ((r_5 72 (by decide) (by decide) (by decide)).trans (gs_eq g72))) rfl).trans ?_
    refine (r_icmp_ge_t f239_75 (by decide)).trans ?_
    refine (r_iinc (v := 2) (L' := [some (.ref 72), some (.int 0), some (.int 2), some (.int 0), none]) f239_143 rfl rfl rfl).trans ?_
    refine (r_goto f239_146).trans ?_
    refine (r_iloadn f239_56 rfl).trans ?_
    refine (r_bipush (v := 10) f239_57 rfl).trans ?_
    refine (r_icmp_ge_f f239_59 (by decide)).trans ?_
    refine (r_aloadn f239_62 rfl).trans ?_
    refine (r_iloadn f239_63 rfl).trans ?_
    refine (r_iloadn f239_64 rfl).trans ?_
    refine (r_virt (as := [.int 2, .int 0]) (v := none) (h1 := y7) f239_65 ((r_6 72 (by decide) (by decide) (by decide)).trans ((r_5 72 (by decide) (by decide) (by decide)).trans (gs_eq g72))) zg236 rfl rfl rfl rfl rfl rfl (e_7 X (n + 183187) (d + 1))).trans ?_
    refine (r_iconst (v := 0) f239_68 rfl).trans ?_
    refine (r_istoren (L' := [some (.ref 72), some (.int 0), some (.int 2), some (.int 0), none]) f239_69 rfl rfl).trans ?_
    refine (r_iloadn f239_70 rfl).trans ?_
    refine (r_aloadn f239_71 rfl).trans ?_
    refine (r_get (v := .int 0) f239_72 ((r_7 72 (by decide) (by decide) (by decide)).trans ((r_6 72 (by decide) (by decide) (by decide)).trans ((r_5 72 (by decide) (by decide) (by decide)).trans (gs_eq g72)))) rfl).trans ?_
    refine (r_icmp_ge_t f239_75 (by decide)).trans ?_
    refine (r_iinc (v := 3) (L' := [some (.ref 72), some (.int 0), some (.int 3), some (.int 0), none]) f239_143 rfl rfl rfl).trans ?_
    refine (r_goto f239_146).trans ?_
    refine (r_iloadn f239_56 rfl).trans ?_
    refine (r_bipush (v := 10) f239_57 rfl).trans ?_
    refine (r_icmp_ge_f f239_59 (by decide)).trans ?_
    refine (r_aloadn f239_62 rfl).trans ?_
    refine (r_iloadn f239_63 rfl).trans ?_
    refine (r_iloadn f239_64 rfl).trans ?_
    refine (r_virt (as := [.int 3, .int 0]) (v := none) (h1 := y8) f239_65 ((r_7 72 (by decide) (by decide) (by decide)).trans ((r_6 72 (by decide) (by decide) (by decide)).trans ((r_5 72 (by decide) (by decide) (by decide)).trans (gs_eq g72)))) zg236 rfl rfl rfl rfl rfl rfl (e_8 X (n + 183172) (d + 1))).trans ?_
    refine (r_iconst (v := 0) f239_68 rfl).trans ?_
    refine (r_istoren (L' := [some (.ref 72), some (.int 0), some (.int 3), some (.int 0), none]) f239_69 rfl rfl).trans ?_
    refine (r_iloadn f239_70 rfl).trans ?_
    refine (r_aloadn f239_71 rfl).trans ?_
    refine (r_get (v := .int 0) f239_72 ((r_8 72 (by decide) (by decide) (by decide)).trans ((r_7 72 (by decide) (by decide) (by decide)).trans ((r_6 72 (by decide) (by decide) (by decide)).trans ((r_5 72 (by decide) (by decide) (by decide)).trans (gs_eq g72))))) rfl).trans ?_
    refine (r_icmp_ge_t f239_75 (by decide)).trans ?_
    refine (r_iinc (v := 4) (L' := [some (.ref 72), some (.int 0), some (.int 4), some (.int 0), none]) f239_143 rfl rfl rfl).trans ?_
    refine (r_goto f239_146).trans ?_
    refine (r_iloadn f239_56 rfl).trans ?_
    refine (r_bipush (v := 10) f239_57 rfl).trans ?_
    refine (r_icmp_ge_f f239_59 (by decide)).trans ?_
    refine (r_aloadn f239_62 rfl).trans ?_
    refine (r_iloadn f239_63 rfl).trans ?_
    refine (r_iloadn f239_64 rfl).trans ?_
    refine (r_virt (as := [.int 4, .int 0]) (v := none) (h1 := y9) f239_65 ((r_8 72 (by decide) (by decide) (by decide)).trans ((r_7 72 (by decide) (by decide) (by decide)).trans ((r_6 72 (by decide) (by decide) (by decide)).trans ((r_5 72 (by decide) (by decide) (by decide)).trans (gs_eq g72))))) zg236 rfl rfl rfl rfl rfl rfl (e_9 X (n + 183157) (d + 1))).trans ?_
    refine (r_iconst (v := 0) f239_68 rfl).trans ?_
    refine (r_istoren (L' := [some (.ref 72), some (.int 0), some (.int 4), some (.int 0), none]) f239_69 rfl rfl).trans ?_
    refine (r_iloadn f239_70 rfl).trans ?_
    refine (r_aloadn f239_71 rfl).trans ?_
    refine (r_get (v := .int 0) f239_72 ((r_9 72 (by decide) (by decide) (by decide)).trans ((r_8 72 (by decide) (by decide) (by decide)).trans ((r_7 72 (by decide) (by decide) (by decide)).trans ((r_6 72 (by decide) (by decide) (by decide)).trans ((r_5 72 (by decide) (by decide) (by decide)).trans (gs_eq g72)))))) rfl).trans ?_
    refine (r_icmp_ge_t f239_75 (by decide)).trans ?_
    refine (r_iinc (v := 5) (L' := [some (.ref 72), some (.int 0), some (.int 5), some (.int 0), none]) f239_143 rfl rfl rfl).trans ?_
    refine (r_goto f239_146).trans ?_
    refine (r_iloadn f239_56 rfl).trans ?_
    refine (r_bipush (v := 10) f239_57 rfl).trans ?_
    refine (r_icmp_ge_f f239_59 (by decide)).trans ?_
    refine (r_aloadn f239_62 rfl).trans ?_
    refine (r_iloadn f239_63 rfl).trans ?_
    refine (r_iloadn f239_64 rfl).trans ?_
    refine (r_virt (as := [.int 5, .int 0]) (v := none) (h1 := y10) f239_65 ((r_9 72 (by decide) (by decide) (by decide)).trans ((r_8 72 (by decide) (by decide) (by decide)).trans ((r_7 72 (by decide) (by decide) (by decide)).trans ((r_6 72 (by decide) (by decide) (by decide)).trans ((r_5 72 (by decide) (by decide) (by decide)).trans (gs_eq g72)))))) zg236 rfl rfl rfl rfl rfl rfl (e_10 X (n + 183142) (d + 1))).trans ?_
    refine (r_iconst (v := 0) f239_68 rfl).trans ?_
    refine (r_istoren (L' := [some (.ref 72), some (.int 0), some (.int 5), some (.int 0), none]) f239_69 rfl rfl).trans ?_
    refine (r_iloadn f239_70 rfl).trans ?_
    refine (r_aloadn f239_71 rfl).trans ?_
    refine (r_get (v := .int 0) f239_72 ((r_10 72 (by decide) (by decide) (by decide)).trans ((r_9 72 (by decide) (by decide) (by decide)).trans ((r_8 72 (by decide) (by decide) (by decide)).trans ((r_7 72 (by decide) (by decide) (by decide)).trans ((r_6 72 (by decide) (by decide) (by decide)).trans ((r_5 72 (by decide) (by decide) (by decide)).trans (gs_eq g72))))))) rfl).trans ?_
    refine (r_icmp_ge_t f239_75 (by decide)).trans ?_
    refine (r_iinc (v := 6) (L' := [some (.ref 72), some (.int 0), some (.int 6), some (.int 0), none]) f239_143 rfl rfl rfl).trans ?_
    refine (r_goto f239_146).trans ?_
    refine (r_iloadn f239_56 rfl).trans ?_
    refine (r_bipush (v := 10) f239_57 rfl).trans ?_
    refine (r_icmp_ge_f f239_59 (by decide)).trans ?_
    refine (r_aloadn f239_62 rfl).trans ?_
    refine (r_iloadn f239_63 rfl).trans ?_
    refine (r_iloadn f239_64 rfl).trans ?_
    refine (r_virt (as := [.int 6, .int 0]) (v := none) (h1 := y11) f239_65 ((r_10 72 (by decide) (by decide) (by decide)).trans ((r_9 72 (by decide) (by decide) (by decide)).trans ((r_8 72 (by decide) (by decide) (by decide)).trans ((r_7 72 (by decide) (by decide) (by decide)).trans ((r_6 72 (by decide) (by decide) (by decide)).trans ((r_5 72 (by decide) (by decide) (by decide)).trans (gs_eq g72))))))) zg236 rfl rfl rfl rfl rfl rfl (e_11 X (n + 183127) (d + 1))).trans ?_
    refine (r_iconst (v := 0) f239_68 rfl).trans ?_
    refine (r_istoren (L' := [some (.ref 72), some (.int 0), some (.int 6), some (.int 0), none]) f239_69 rfl rfl).trans ?_
    refine (r_iloadn f239_70 rfl).trans ?_
    refine (r_aloadn f239_71 rfl).trans ?_
    refine (r_get (v := .int 0) f239_72 ((r_11 72 (by decide) (by decide) (by decide)).trans ((r_10 72 (by decide) (by decide) (by decide)).trans ((r_9 72 (by decide) (by decide) (by decide)).trans ((r_8 72 (by decide) (by decide) (by decide)).trans ((r_7 72 (by decide) (by decide) (by decide)).trans ((r_6 72 (by decide) (by decide) (by decide)).trans ((r_5 72 (by decide) (by decide) (by decide)).trans (gs_eq g72)))))))) rfl).trans ?_
    refine (r_icmp_ge_t f239_75 (by decide)).trans ?_
    refine (r_iinc (v := 7) (L' := [some (.ref 72), some (.int 0), some (.int 7), some (.int 0), none]) f239_143 rfl rfl rfl).trans ?_
    refine (r_goto f239_146).trans ?_
    refine (r_iloadn f239_56 rfl).trans ?_
    refine (r_bipush (v := 10) f239_57 rfl).trans ?_
    refine (r_icmp_ge_f f239_59 (by decide)).trans ?_
    refine (r_aloadn f239_62 rfl).trans ?_
    refine (r_iloadn f239_63 rfl).trans ?_
    refine (r_iloadn f239_64 rfl).trans ?_
    refine (r_virt (as := [.int 7, .int 0]) (v := none) (h1 := y12) f239_65 ((r_11 72 (by decide) (by decide) (by decide)).trans ((r_10 72 (by decide) (by decide) (by decide)).trans ((r_9 72 (by decide) (by decide) (by decide)).trans ((r_8 72 (by decide) (by decide) (by decide)).trans ((r_7 72 (by decide) (by decide) (by decide)).trans ((r_6 72 (by decide) (by decide) (by decide)).trans ((r_5 72 (by decide) (by decide) (by decide)).trans (gs_eq g72)))))))) zg236 rfl rfl rfl rfl rfl rfl (e_12 X (n + 183112) (d + 1))).trans ?_
    refine (r_iconst (v := 0) f239_68 rfl).trans ?_
    refine (r_istoren (L' := [some (.ref 72), some (.int 0), some (.int 7), some (.int 0), none]) f239_69 rfl rfl).trans ?_
    refine (r_iloadn f239_70 rfl).trans ?_
    refine (r_aloadn f239_71 rfl).trans ?_
    refine (r_get (v := .int 0) f239_72 ((r_12 72 (by decide) (by decide) (by decide)).trans ((r_11 72 (by decide) (by decide) (by decide)).trans ((r_10 72 (by decide) (by decide) (by decide)).trans ((r_9 72 (by decide) (by decide) (by decide)).trans ((r_8 72 (by decide) (by decide) (by decide)).trans ((r_7 72 (by decide) (by decide) (by decide)).trans ((r_6 72 (by decide) (by decide) (by decide)).trans ((r_5 72 (by decide) (by decide) (by decide)).trans (gs_eq g72))))))))) rfl).trans ?_
    refine (r_icmp_ge_t f239_75 (by decide)).trans ?_
    refine (r_iinc (v := 8) (L' := [some (.ref 72), some (.int 0), some (.int 8), some (.int 0), none]) f239_143 rfl rfl rfl).trans ?_
    refine (r_goto f239_146).trans ?_
    refine (r_iloadn f239_56 rfl).trans ?_
    refine (r_bipush (v := 10) f239_57 rfl).trans ?_
    refine (r_icmp_ge_f f239_59 (by decide)).trans ?_
    refine (r_aloadn f239_62 rfl).trans ?_
    refine (r_iloadn f239_63 rfl).trans ?_
    refine (r_iloadn f239_64 rfl).trans ?_
    refine (r_virt (as := [.int 8, .int 0]) (v := none) (h1 := y13) f239_65 ((r_12 72 (by decide) (by decide) (by decide)).trans ((r_11 72 (by decide) (by decide) (by decide)).trans ((r_10 72 (by decide) (by decide) (by decide)).trans ((r_9 72 (by decide) (by decide) (by decide)).trans ((r_8 72 (by decide) (by decide) (by decide)).trans ((r_7 72 (by decide) (by decide) (by decide)).trans ((r_6 72 (by decide) (by decide) (by decide)).trans ((r_5 72 (by decide) (by decide) (by decide)).trans (gs_eq g72))))))))) zg236 rfl rfl rfl rfl rfl rfl (e_13 X (n + 183097) (d + 1))).trans ?_
    refine (r_iconst (v := 0) f239_68 rfl).trans ?_
    refine (r_istoren (L' := [some (.ref 72), some (.int 0), some (.int 8), some (.int 0), none]) f239_69 rfl rfl).trans ?_
    refine (r_iloadn f239_70 rfl).trans ?_
    refine (r_aloadn f239_71 rfl).trans ?_
    refine (r_get (v := .int 0) f239_72 ((r_13 72 (by decide) (by decide) (by decide)).trans ((r_12 72 (by decide) (by decide) (by decide)).trans ((r_11 72 (by decide) (by decide) (by decide)).trans ((r_10 72 (by decide) (by decide) (by decide)).trans ((r_9 72 (by decide) (by decide) (by decide)).trans ((r_8 72 (by decide) (by decide) (by decide)).trans ((r_7 72 (by decide) (by decide) (by decide)).trans ((r_6 72 (by decide) (by decide) (by decide)).trans ((r_5 72 (by decide) (by decide) (by decide)).trans (gs_eq g72)))))))))) rfl).trans ?_
    refine (r_icmp_ge_t f239_75 (by decide)).trans ?_
    refine (r_iinc (v := 9) (L' := [some (.ref 72), some (.int 0), some (.int 9), some (.int 0), none]) f239_143 rfl rfl rfl).trans ?_
    refine (r_goto f239_146).trans ?_
    refine (r_iloadn f239_56 rfl).trans ?_
    refine (r_bipush (v := 10) f239_57 rfl).trans ?_
    refine (r_icmp_ge_f f239_59 (by decide)).trans ?_
    refine (r_aloadn f239_62 rfl).trans ?_
    refine (r_iloadn f239_63 rfl).trans ?_
    refine (r_iloadn f239_64 rfl).trans ?_
    refine (r_virt (as := [.int 9, .int 0]) (v := none) (h1 := y14) f239_65 ((r_13 72 (by decide) (by decide) (by decide)).trans ((r_12 72 (by decide) (by decide) (by decide)).trans ((r_11 72 (by decide) (by decide) (by decide)).trans ((r_10 72 (by decide) (by decide) (by decide)).trans ((r_9 72 (by decide) (by decide) (by decide)).trans ((r_8 72 (by decide) (by decide) (by decide)).trans ((r_7 72 (by decide) (by decide) (by decide)).trans ((r_6 72 (by decide) (by decide) (by decide)).trans ((r_5 72 (by decide) (by decide) (by decide)).trans (gs_eq g72)))))))))) zg236 rfl rfl rfl rfl rfl rfl (e_14 X (n + 183082) (d + 1))).trans ?_
    refine (r_iconst (v := 0) f239_68 rfl).trans ?_
    refine (r_istoren (L' := [some (.ref 72), some (.int 0), some (.int 9), some (.int 0), none]) f239_69 rfl rfl).trans ?_
    refine (r_iloadn f239_70 rfl).trans ?_
    refine (r_aloadn f239_71 rfl).trans ?_
    refine (r_get (v := .int 0) f239_72 ((r_14 72 (by decide) (by decide) (by decide)).trans ((r_13 72 (by decide) (by decide) (by decide)).trans ((r_12 72 (by decide) (by decide) (by decide)).trans ((r_11 72 (by decide) (by decide) (by decide)).trans ((r_10 72 (by decide) (by decide) (by decide)).trans ((r_9 72 (by decide) (by decide) (by decide)).trans ((r_8 72 (by decide) (by decide) (by decide)).trans ((r_7 72 (by decide) (by decide) (by decide)).trans ((r_6 72 (by decide) (by decide) (by decide)).trans ((r_5 72 (by decide) (by decide) (by decide)).trans (gs_eq g72))))))))))) rfl).trans ?_
    refine (r_icmp_ge_t f239_75 (by decide)).trans ?_
    refine (r_iinc (v := 10) (L' := [some (.ref 72), some (.int 0), some (.int 10), some (.int 0), none]) f239_143 rfl rfl rfl).trans ?_
    refine (r_goto f239_146).trans ?_
    refine (r_iloadn f239_56 rfl).trans ?_
    refine (r_bipush (v := 10) f239_57 rfl).trans ?_
    refine (r_icmp_ge_t f239_59 (by decide)).trans ?_
    exact r_vreturn f239_149 rfl
  · simp only [l_5, l_6, l_7, l_8, l_9, l_10, l_11, l_12, l_13, l_14, List.length_set]
  · simp only [u_5, u_6, u_7, u_8, u_9, u_10, u_11, u_12, u_13, u_14]
  · rw [r_14 k k2 k3 k4, r_13 k k2 k3 k4, r_12 k k2 k3 k4, r_11 k k2 k3 k4, r_10 k k2 k3 k4, r_9 k k2 k3 k4, r_8 k k2 k3 k4, r_7 k k2 k3 k4, r_6 k k2 k3 k4, r_5 k k2 k3 k4]
    simp only [List.getElem?_set, if_neg (Ne.symm k1)]

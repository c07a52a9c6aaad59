-- ===== by hand: draw =====
theorem f198_0 : aF 0 zM198.2.2.2.2.2.2.2 = some (0, (.iload_n 0), 1, 0, 0) := by decide +kernel
theorem f198_1 : aF 1 zM198.2.2.2.2.2.2.2 = some (1, (.iconst 0), 1, 0, 0) := by decide +kernel
theorem f198_2 : aF 2 zM198.2.2.2.2.2.2.2 = some (2, (.bipush 9), 2, 0, 0) := by decide +kernel
theorem f198_4 : aF 4 zM198.2.2.2.2.2.2.2 = some (4, (.invokestatic 258), 3, 196, 0) := by decide +kernel
theorem f198_7 : aF 7 zM198.2.2.2.2.2.2.2 = some (7, .ireturn, 1, 0, 0) := by decide +kernel
theorem f206_0 : aF 0 zM206.2.2.2.2.2.2.2 = some (0, (.iload_n 0), 1, 0, 0) := by decide +kernel
theorem f206_1 : aF 1 zM206.2.2.2.2.2.2.2 = some (1, (.iconst 0), 1, 0, 0) := by decide +kernel
theorem f206_2 : aF 2 zM206.2.2.2.2.2.2.2 = some (2, (.iconst 3), 1, 0, 0) := by decide +kernel
theorem f206_3 : aF 3 zM206.2.2.2.2.2.2.2 = some (3, (.invokestatic 258), 3, 196, 0) := by decide +kernel
theorem f206_6 : aF 6 zM206.2.2.2.2.2.2.2 = some (6, .ireturn, 1, 0, 0) := by decide +kernel
theorem f211_0 : aF 0 zM211.2.2.2.2.2.2.2 = some (0, (.iload_n 0), 1, 0, 0) := by decide +kernel
theorem f211_1 : aF 1 zM211.2.2.2.2.2.2.2 = some (1, (.iload_n 1), 1, 0, 0) := by decide +kernel
theorem f211_2 : aF 2 zM211.2.2.2.2.2.2.2 = some (2, (.if_icmp .ge 7), 3, 9, 0) := by decide +kernel
theorem f211_5 : aF 5 zM211.2.2.2.2.2.2.2 = some (5, (.iload_n 0), 1, 0, 0) := by decide +kernel
theorem f211_6 : aF 6 zM211.2.2.2.2.2.2.2 = some (6, (.goto 4), 3, 10, 0) := by decide +kernel
theorem f211_9 : aF 9 zM211.2.2.2.2.2.2.2 = some (9, (.iload_n 1), 1, 0, 0) := by decide +kernel
theorem f211_10 : aF 10 zM211.2.2.2.2.2.2.2 = some (10, .ireturn, 1, 0, 0) := by decide +kernel
theorem f292_0 : aF 0 zM292.2.2.2.2.2.2.2 = some (0, (.iload_n 1), 1, 0, 0) := by decide +kernel
theorem f292_1 : aF 1 zM292.2.2.2.2.2.2.2 = some (1, (.invokestatic 280), 3, 206, 0) := by decide +kernel
theorem f292_4 : aF 4 zM292.2.2.2.2.2.2.2 = some (4, (.ifCond .eq 20), 3, 24, 0) := by decide +kernel
theorem f292_7 : aF 7 zM292.2.2.2.2.2.2.2 = some (7, (.iload_n 2), 1, 0, 0) := by decide +kernel
theorem f292_8 : aF 8 zM292.2.2.2.2.2.2.2 = some (8, (.invokestatic 372), 3, 198, 0) := by decide +kernel
theorem f292_11 : aF 11 zM292.2.2.2.2.2.2.2 = some (11, (.ifCond .eq 13), 3, 24, 0) := by decide +kernel
theorem f292_14 : aF 14 zM292.2.2.2.2.2.2.2 = some (14, (.iload_n 3), 1, 0, 0) := by decide +kernel
theorem f292_15 : aF 15 zM292.2.2.2.2.2.2.2 = some (15, (.iconst 1), 1, 0, 0) := by decide +kernel
theorem f292_16 : aF 16 zM292.2.2.2.2.2.2.2 = some (16, (.bipush 9), 2, 0, 0) := by decide +kernel
theorem f292_18 : aF 18 zM292.2.2.2.2.2.2.2 = some (18, (.invokestatic 258), 3, 196, 0) := by decide +kernel
theorem f292_21 : aF 21 zM292.2.2.2.2.2.2.2 = some (21, (.ifCond .ne 5), 3, 26, 0) := by decide +kernel
theorem f292_24 : aF 24 zM292.2.2.2.2.2.2.2 = some (24, (.iconst (-1)), 1, 0, 0) := by decide +kernel
theorem f292_25 : aF 25 zM292.2.2.2.2.2.2.2 = some (25, .ireturn, 1, 0, 0) := by decide +kernel
theorem f292_26 : aF 26 zM292.2.2.2.2.2.2.2 = some (26, (.aload_n 0), 1, 0, 0) := by decide +kernel
theorem f292_27 : aF 27 zM292.2.2.2.2.2.2.2 = some (27, (.aload_n 0), 1, 0, 0) := by decide +kernel
theorem f292_28 : aF 28 zM292.2.2.2.2.2.2.2 = some (28, (.getfield 262), 3, 12, 1) := by decide +kernel
theorem f292_31 : aF 31 zM292.2.2.2.2.2.2.2 = some (31, (.invokevirtual 368), 3, 239, 0) := by decide +kernel
theorem f292_34 : aF 34 zM292.2.2.2.2.2.2.2 = some (34, (.iconst 0), 1, 0, 0) := by decide +kernel
theorem f292_35 : aF 35 zM292.2.2.2.2.2.2.2 = some (35, (.istore 4), 2, 0, 0) := by decide +kernel
theorem f292_37 : aF 37 zM292.2.2.2.2.2.2.2 = some (37, (.iconst 0), 1, 0, 0) := by decide +kernel
theorem f292_38 : aF 38 zM292.2.2.2.2.2.2.2 = some (38, (.istore 5), 2, 0, 0) := by decide +kernel
theorem f292_40 : aF 40 zM292.2.2.2.2.2.2.2 = some (40, (.iload 5), 2, 0, 0) := by decide +kernel
theorem f292_42 : aF 42 zM292.2.2.2.2.2.2.2 = some (42, (.aload_n 0), 1, 0, 0) := by decide +kernel
theorem f292_43 : aF 43 zM292.2.2.2.2.2.2.2 = some (43, (.getfield 265), 3, 12, 2) := by decide +kernel
theorem f292_46 : aF 46 zM292.2.2.2.2.2.2.2 = some (46, (.if_icmp .ge 71), 3, 117, 0) := by decide +kernel
theorem f292_49 : aF 49 zM292.2.2.2.2.2.2.2 = some (49, (.aload_n 0), 1, 0, 0) := by decide +kernel
theorem f292_50 : aF 50 zM292.2.2.2.2.2.2.2 = some (50, (.getfield 219), 3, 12, 86) := by decide +kernel
theorem f292_53 : aF 53 zM292.2.2.2.2.2.2.2 = some (53, (.iload 5), 2, 0, 0) := by decide +kernel
theorem f292_55 : aF 55 zM292.2.2.2.2.2.2.2 = some (55, (.aload_n 0), 1, 0, 0) := by decide +kernel
theorem f292_56 : aF 56 zM292.2.2.2.2.2.2.2 = some (56, (.iload 5), 2, 0, 0) := by decide +kernel
theorem f292_58 : aF 58 zM292.2.2.2.2.2.2.2 = some (58, (.invokevirtual 316), 3, 202, 0) := by decide +kernel
theorem f292_61 : aF 61 zM292.2.2.2.2.2.2.2 = some (61, (.ifCond .eq 28), 3, 89, 0) := by decide +kernel
theorem f292_64 : aF 64 zM292.2.2.2.2.2.2.2 = some (64, (.aload_n 0), 1, 0, 0) := by decide +kernel
theorem f292_65 : aF 65 zM292.2.2.2.2.2.2.2 = some (65, (.getfield 13), 3, 12, 4) := by decide +kernel
theorem f292_68 : aF 68 zM292.2.2.2.2.2.2.2 = some (68, (.iload 5), 2, 0, 0) := by decide +kernel
theorem f292_70 : aF 70 zM292.2.2.2.2.2.2.2 = some (70, .iaload, 1, 0, 0) := by decide +kernel
theorem f292_71 : aF 71 zM292.2.2.2.2.2.2.2 = some (71, (.iload_n 1), 1, 0, 0) := by decide +kernel
theorem f292_72 : aF 72 zM292.2.2.2.2.2.2.2 = some (72, (.if_icmp .ne 17), 3, 89, 0) := by decide +kernel
theorem f292_75 : aF 75 zM292.2.2.2.2.2.2.2 = some (75, (.aload_n 0), 1, 0, 0) := by decide +kernel
theorem f292_76 : aF 76 zM292.2.2.2.2.2.2.2 = some (76, (.iload 5), 2, 0, 0) := by decide +kernel
theorem f292_78 : aF 78 zM292.2.2.2.2.2.2.2 = some (78, (.iload_n 2), 1, 0, 0) := by decide +kernel
theorem f292_79 : aF 79 zM292.2.2.2.2.2.2.2 = some (79, (.invokevirtual 529), 3, 291, 0) := by decide +kernel
theorem f292_82 : aF 82 zM292.2.2.2.2.2.2.2 = some (82, (.ifCond .eq 7), 3, 89, 0) := by decide +kernel
theorem f292_85 : aF 85 zM292.2.2.2.2.2.2.2 = some (85, (.iconst 1), 1, 0, 0) := by decide +kernel
theorem f292_86 : aF 86 zM292.2.2.2.2.2.2.2 = some (86, (.goto 4), 3, 90, 0) := by decide +kernel
theorem f292_89 : aF 89 zM292.2.2.2.2.2.2.2 = some (89, (.iconst 0), 1, 0, 0) := by decide +kernel
theorem f292_90 : aF 90 zM292.2.2.2.2.2.2.2 = some (90, .bastore, 1, 0, 0) := by decide +kernel
theorem f292_91 : aF 91 zM292.2.2.2.2.2.2.2 = some (91, (.iload 4), 2, 0, 0) := by decide +kernel
theorem f292_93 : aF 93 zM292.2.2.2.2.2.2.2 = some (93, (.aload_n 0), 1, 0, 0) := by decide +kernel
theorem f292_94 : aF 94 zM292.2.2.2.2.2.2.2 = some (94, (.getfield 219), 3, 12, 86) := by decide +kernel
theorem f292_97 : aF 97 zM292.2.2.2.2.2.2.2 = some (97, (.iload 5), 2, 0, 0) := by decide +kernel
theorem f292_99 : aF 99 zM292.2.2.2.2.2.2.2 = some (99, .baload, 1, 0, 0) := by decide +kernel
theorem f292_100 : aF 100 zM292.2.2.2.2.2.2.2 = some (100, (.ifCond .eq 7), 3, 107, 0) := by decide +kernel
theorem f292_103 : aF 103 zM292.2.2.2.2.2.2.2 = some (103, (.iconst 1), 1, 0, 0) := by decide +kernel
theorem f292_104 : aF 104 zM292.2.2.2.2.2.2.2 = some (104, (.goto 4), 3, 108, 0) := by decide +kernel
theorem f292_107 : aF 107 zM292.2.2.2.2.2.2.2 = some (107, (.iconst 0), 1, 0, 0) := by decide +kernel
theorem f292_108 : aF 108 zM292.2.2.2.2.2.2.2 = some (108, .iadd, 1, 0, 0) := by decide +kernel
theorem f292_109 : aF 109 zM292.2.2.2.2.2.2.2 = some (109, (.istore 4), 2, 0, 0) := by decide +kernel
theorem f292_111 : aF 111 zM292.2.2.2.2.2.2.2 = some (111, (.iinc 5 1), 3, 0, 0) := by decide +kernel
theorem f292_114 : aF 114 zM292.2.2.2.2.2.2.2 = some (114, (.goto (-74)), 3, 40, 0) := by decide +kernel
theorem f292_117 : aF 117 zM292.2.2.2.2.2.2.2 = some (117, (.iload_n 3), 1, 0, 0) := by decide +kernel
theorem f292_118 : aF 118 zM292.2.2.2.2.2.2.2 = some (118, (.iload 4), 2, 0, 0) := by decide +kernel
theorem f292_120 : aF 120 zM292.2.2.2.2.2.2.2 = some (120, (.invokestatic 289), 3, 211, 0) := by decide +kernel
theorem f292_123 : aF 123 zM292.2.2.2.2.2.2.2 = some (123, (.istore 5), 2, 0, 0) := by decide +kernel
theorem f292_125 : aF 125 zM292.2.2.2.2.2.2.2 = some (125, (.iconst 0), 1, 0, 0) := by decide +kernel
theorem f292_126 : aF 126 zM292.2.2.2.2.2.2.2 = some (126, (.istore 6), 2, 0, 0) := by decide +kernel
theorem f292_128 : aF 128 zM292.2.2.2.2.2.2.2 = some (128, (.iload 6), 2, 0, 0) := by decide +kernel
theorem f292_130 : aF 130 zM292.2.2.2.2.2.2.2 = some (130, (.iload 5), 2, 0, 0) := by decide +kernel
theorem f292_132 : aF 132 zM292.2.2.2.2.2.2.2 = some (132, (.if_icmp .ge 176), 3, 308, 0) := by decide +kernel
theorem f292_135 : aF 135 zM292.2.2.2.2.2.2.2 = some (135, (.iconst (-1)), 1, 0, 0) := by decide +kernel
theorem f292_136 : aF 136 zM292.2.2.2.2.2.2.2 = some (136, (.istore 7), 2, 0, 0) := by decide +kernel
theorem f292_138 : aF 138 zM292.2.2.2.2.2.2.2 = some (138, (.iload 6), 2, 0, 0) := by decide +kernel
theorem f292_140 : aF 140 zM292.2.2.2.2.2.2.2 = some (140, (.iload 5), 2, 0, 0) := by decide +kernel
theorem f292_142 : aF 142 zM292.2.2.2.2.2.2.2 = some (142, (.iconst 1), 1, 0, 0) := by decide +kernel
theorem f292_143 : aF 143 zM292.2.2.2.2.2.2.2 = some (143, .iadd, 1, 0, 0) := by decide +kernel
theorem f292_144 : aF 144 zM292.2.2.2.2.2.2.2 = some (144, (.iconst 2), 1, 0, 0) := by decide +kernel
theorem f292_145 : aF 145 zM292.2.2.2.2.2.2.2 = some (145, .idiv, 1, 0, 0) := by decide +kernel
theorem f292_146 : aF 146 zM292.2.2.2.2.2.2.2 = some (146, (.if_icmp .ge 60), 3, 206, 0) := by decide +kernel
theorem f292_149 : aF 149 zM292.2.2.2.2.2.2.2 = some (149, (.iconst 0), 1, 0, 0) := by decide +kernel
theorem f292_150 : aF 150 zM292.2.2.2.2.2.2.2 = some (150, (.istore 8), 2, 0, 0) := by decide +kernel
theorem f292_203 : aF 203 zM292.2.2.2.2.2.2.2 = some (203, (.goto 82), 3, 285, 0) := by decide +kernel
theorem f292_206 : aF 206 zM292.2.2.2.2.2.2.2 = some (206, (.aload_n 0), 1, 0, 0) := by decide +kernel
theorem f292_207 : aF 207 zM292.2.2.2.2.2.2.2 = some (207, (.aload_n 0), 1, 0, 0) := by decide +kernel
theorem f292_208 : aF 208 zM292.2.2.2.2.2.2.2 = some (208, (.getfield 210), 3, 12, 83) := by decide +kernel
theorem f292_211 : aF 211 zM292.2.2.2.2.2.2.2 = some (211, (.ldc_w 535), 3, 1103515245, 0) := by decide +kernel
theorem f292_214 : aF 214 zM292.2.2.2.2.2.2.2 = some (214, .imul, 1, 0, 0) := by decide +kernel
theorem f292_215 : aF 215 zM292.2.2.2.2.2.2.2 = some (215, (.sipush 12345), 3, 0, 0) := by decide +kernel
theorem f292_218 : aF 218 zM292.2.2.2.2.2.2.2 = some (218, .iadd, 1, 0, 0) := by decide +kernel
theorem f292_219 : aF 219 zM292.2.2.2.2.2.2.2 = some (219, (.putfield 210), 3, 12, 83) := by decide +kernel
theorem f292_222 : aF 222 zM292.2.2.2.2.2.2.2 = some (222, (.aload_n 0), 1, 0, 0) := by decide +kernel
theorem f292_223 : aF 223 zM292.2.2.2.2.2.2.2 = some (223, (.getfield 210), 3, 12, 83) := by decide +kernel
theorem f292_226 : aF 226 zM292.2.2.2.2.2.2.2 = some (226, (.bipush 8), 2, 0, 0) := by decide +kernel
theorem f292_228 : aF 228 zM292.2.2.2.2.2.2.2 = some (228, .iushr, 1, 0, 0) := by decide +kernel
theorem f292_229 : aF 229 zM292.2.2.2.2.2.2.2 = some (229, (.iload 4), 2, 0, 0) := by decide +kernel
theorem f292_231 : aF 231 zM292.2.2.2.2.2.2.2 = some (231, (.iload 6), 2, 0, 0) := by decide +kernel
theorem f292_233 : aF 233 zM292.2.2.2.2.2.2.2 = some (233, .isub, 1, 0, 0) := by decide +kernel
theorem f292_234 : aF 234 zM292.2.2.2.2.2.2.2 = some (234, .irem, 1, 0, 0) := by decide +kernel
theorem f292_235 : aF 235 zM292.2.2.2.2.2.2.2 = some (235, (.istore 8), 2, 0, 0) := by decide +kernel
theorem f292_237 : aF 237 zM292.2.2.2.2.2.2.2 = some (237, (.iconst 0), 1, 0, 0) := by decide +kernel
theorem f292_238 : aF 238 zM292.2.2.2.2.2.2.2 = some (238, (.istore 9), 2, 0, 0) := by decide +kernel
theorem f292_285 : aF 285 zM292.2.2.2.2.2.2.2 = some (285, (.aload_n 0), 1, 0, 0) := by decide +kernel
theorem f292_286 : aF 286 zM292.2.2.2.2.2.2.2 = some (286, (.getfield 219), 3, 12, 86) := by decide +kernel
theorem f292_289 : aF 289 zM292.2.2.2.2.2.2.2 = some (289, (.iload 7), 2, 0, 0) := by decide +kernel
theorem f292_291 : aF 291 zM292.2.2.2.2.2.2.2 = some (291, (.iconst 0), 1, 0, 0) := by decide +kernel
theorem f292_292 : aF 292 zM292.2.2.2.2.2.2.2 = some (292, .bastore, 1, 0, 0) := by decide +kernel
theorem f292_293 : aF 293 zM292.2.2.2.2.2.2.2 = some (293, (.aload_n 0), 1, 0, 0) := by decide +kernel
theorem f292_294 : aF 294 zM292.2.2.2.2.2.2.2 = some (294, (.getfield 216), 3, 12, 85) := by decide +kernel
theorem f292_297 : aF 297 zM292.2.2.2.2.2.2.2 = some (297, (.iload 6), 2, 0, 0) := by decide +kernel
theorem f292_299 : aF 299 zM292.2.2.2.2.2.2.2 = some (299, (.iload 7), 2, 0, 0) := by decide +kernel
theorem f292_301 : aF 301 zM292.2.2.2.2.2.2.2 = some (301, .iastore, 1, 0, 0) := by decide +kernel
theorem f292_302 : aF 302 zM292.2.2.2.2.2.2.2 = some (302, (.iinc 6 1), 3, 0, 0) := by decide +kernel
theorem f292_305 : aF 305 zM292.2.2.2.2.2.2.2 = some (305, (.goto (-177)), 3, 128, 0) := by decide +kernel
theorem f292_308 : aF 308 zM292.2.2.2.2.2.2.2 = some (308, (.aload_n 0), 1, 0, 0) := by decide +kernel
theorem f292_309 : aF 309 zM292.2.2.2.2.2.2.2 = some (309, (.iload 5), 2, 0, 0) := by decide +kernel
theorem f292_311 : aF 311 zM292.2.2.2.2.2.2.2 = some (311, (.putfield 213), 3, 12, 84) := by decide +kernel
theorem f292_314 : aF 314 zM292.2.2.2.2.2.2.2 = some (314, (.iload 5), 2, 0, 0) := by decide +kernel
theorem f292_316 : aF 316 zM292.2.2.2.2.2.2.2 = some (316, .ireturn, 1, 0, 0) := by decide +kernel
theorem isLand_wp {X : aX} {h : aH} {x : Int32} : Wp X 1 zM206 (fun v h' => h = h' ∧ ∃ r : Int32, v = some (.int r) ∧ (r.toInt = 0 ∨ r.toInt = 1) ∧ (r.toInt = 1 → 0 ≤ x.toInt ∧ x.toInt ≤ 3)) 0 [some (.int x)] [] h := by
  refine wp1 (fun n d => r_iloadn f206_0 rfl) ?_
  refine w_iconst f206_1 (fun a ha => ?_)
  refine w_iconst f206_2 (fun b hb => ?_)
  refine wp_in (lv := 0) (Y := zM196) (in_wp (x := x) (a := a) (b := b)) (fun n d v h' e => r_stat (as := [.int x, .int a, .int b]) (r := []) f206_3 rfl (show zmt[196]? = some zM196 from rfl) rfl rfl rfl rfl rfl rfl e) (by decide) ?_
  rintro v h' ⟨rfl, r, rfl, h01, hr⟩
  refine wp_end (fun n d => r_zreturn f206_6 rfl (h01.elim (fun q => Or.inl (b_i.mpr q)) (fun q => Or.inr (b_i.mpr q)))) ⟨rfl, r, rfl, h01, fun q => ?_⟩
  have := hr q
  omega
theorem isYear_wp {X : aX} {h : aH} {x : Int32} : Wp X 1 zM198 (fun v h' => h = h' ∧ ∃ r : Int32, v = some (.int r) ∧ (r.toInt = 0 ∨ r.toInt = 1) ∧ (r.toInt = 1 → 0 ≤ x.toInt ∧ x.toInt ≤ 9)) 0 [some (.int x)] [] h := by
  refine wp1 (fun n d => r_iloadn f198_0 rfl) ?_
  refine w_iconst f198_1 (fun a ha => ?_)
  refine w_bipush f198_2 (fun b hb => ?_)
  refine wp_in (lv := 0) (Y := zM196) (in_wp (x := x) (a := a) (b := b)) (fun n d v h' e => r_stat (as := [.int x, .int a, .int b]) (r := []) f198_4 rfl (show zmt[196]? = some zM196 from rfl) rfl rfl rfl rfl rfl rfl e) (by decide) ?_
  rintro v h' ⟨rfl, r, rfl, h01, hr⟩
  refine wp_end (fun n d => r_zreturn f198_7 rfl (h01.elim (fun q => Or.inl (b_i.mpr q)) (fun q => Or.inr (b_i.mpr q)))) ⟨rfl, r, rfl, h01, fun q => ?_⟩
  have := hr q
  omega
theorem lesser_wp {X : aX} {D : Nat} {h : aH} {x y : Int32} : Wp X D zM211 (fun v h' => h = h' ∧ ∃ r : Int32, v = some (.int r) ∧ (r = x ∧ x.toInt < y.toInt ∨ r = y ∧ y.toInt ≤ x.toInt)) 0 [some (.int x), some (.int y)] [] h := by
  refine wp1 (fun n d => r_iloadn f211_0 rfl) ?_
  refine wp1 (fun n d => r_iloadn f211_1 rfl) ?_
  refine w_icmp_ge f211_2 (fun e => ?_) (fun e => ?_)
  · refine wp1 (fun n d => r_iloadn f211_9 rfl) ?_
    exact wp_end (fun n d => r_ireturn f211_10 rfl) ⟨rfl, _, rfl, Or.inr ⟨rfl, e⟩⟩
  · refine wp1 (fun n d => r_iloadn f211_5 rfl) ?_
    refine wp1 (fun n d => r_goto f211_6) ?_
    exact wp_end (fun n d => r_ireturn f211_10 rfl) ⟨rfl, _, rfl, Or.inl ⟨rfl, e⟩⟩
theorem drawC {X : aX} {D : Nat} (G2 : dGood X cC302) (G4 : dGood X cC304) (hD : 4 ≤ D) {Q : Option Value → aH → Prop} {x1 x2 x3 nb : Int32} {u6 u7 u8 u9 : Option Value} (y0 : 0 ≤ x2.toInt) (y1 : x2.toInt ≤ 9) (n0 : 0 ≤ nb.toInt) (n1 : nb.toInt ≤ 150) : ∀ (k : Nat) (x4 x5 : Int32) (σ : List Nat) (h : aH) (fs : List Value) (g : Nat → Int32), (nb.toInt - x5.toInt).toNat = k → 0 ≤ x5.toInt → x5.toInt ≤ nb.toInt → dI σ h → h.1[135]? = some (.inl (2, 150, .inl g)) → h.1[72]? = some (.inr (12, fs)) → fs[2]? = some (.int nb) → x4.toInt = cntN g x5.toInt.toNat →
    (∀ (σ' : List Nat) (h' : aH) (g' : Nat → Int32) (x4' x5' : Int32), dI σ' h' → dG cC217.2.2.1 σ h σ' h' → h'.1[135]? = some (.inl (2, 150, .inl g')) → x4'.toInt = cntN g' nb.toInt.toNat → Wp X D zM292 Q 117 [some (.ref 72), some (.int x1), some (.int x2), some (.int x3), some (.int x4'), some (.int x5'), u6, u7, u8, u9] [] h') → Wp X D zM292 Q 40 [some (.ref 72), some (.int x1), some (.int x2), some (.int x3), some (.int x4), some (.int x5), u6, u7, u8, u9] [] h := by
  intro k
  induction k with
  | zero =>
    intro x4 x5 σ h fs g hk a0 a1 I c135 c72 F72_2 hc kq
    refine wp1 (fun n d => r_iload f292_40 rfl) ?_
    refine wp1 (fun n d => r_aloadn f292_42 rfl) ?_
    refine w_get f292_43 c72 F72_2 ?_
    refine w_icmp_ge f292_46 (fun e => kq σ h g x4 x5 I (dG_refl _ _ _) c135 ?_) (fun e => absurd e (by omega))
    rw [show nb.toInt.toNat = x5.toInt.toNat by omega]
    exact hc
  | succ k ih =>
    intro x4 x5 σ h fs g hk a0 a1 I c135 c72 F72_2 hc kq
    have hle := cntN_le g x5.toInt.toNat
    refine wp1 (fun n d => r_iload f292_40 rfl) ?_
    refine wp1 (fun n d => r_aloadn f292_42 rfl) ?_
    refine w_get f292_43 c72 F72_2 ?_
    refine w_icmp_ge f292_46 (fun e46 => absurd e46 (by omega)) (fun e46 => ?_)
    have k90 : ∀ (σ1 : List Nat) (h1 : aH) (v : Int32), dI σ1 h1 → dG cC217.2.2.1 σ h σ1 h1 → h1.1[135]? = some (.inl (2, 150, .inl g)) → (v.toInt = 0 ∨ v.toInt = 1) → Wp X D zM292 Q 90 [some (.ref 72), some (.int x1), some (.int x2), some (.int x3), some (.int x4), some (.int x5), u6, u7, u8, u9] [.int v, .int x5, .ref 135] h1 := by
      intro σ1 h1 v I1 G1 d135 hv
      obtain ⟨fs1, d72, dfs⟩ := dG_o I.1 G1 c72 (by decide)
      have E72_2 := (dfs 2 rfl).trans F72_2
      refine w_zastI f292_90 d135 (by omega) (by omega) I1 (W := cC217.2.2.1) (by decide +kernel) (by decide) (by omega) (fun h1001 w1001 hw1001 I1001 G1001 c1001 ne1001 => ?_)
      obtain ⟨g1001, hg1001⟩ : ∃ g', g' = upd g x5.toInt.toNat w1001 := ⟨_, rfl⟩
      rw [← hg1001] at c1001
      have c1002 := (ne1001 72 (by decide)).trans d72
      refine wp1 (fun n d => r_iload f292_91 rfl) ?_
      refine wp1 (fun n d => r_aloadn f292_93 rfl) ?_
      have F1003 := hI_r I1001 c1002 (f := 86) (q := 135) (by decide +kernel)
      refine w_get f292_94 c1002 F1003 ?_
      refine wp1 (fun n d => r_iload f292_97 rfl) ?_
      refine w_zald f292_99 c1001 (by omega) (by omega) (fun v99 hv99 => ?_)
      have hgx : g1001 x5.toInt.toNat = w1001 := by rw [hg1001]; exact pk_us
      have hgc : cntN g1001 x5.toInt.toNat = cntN g x5.toInt.toNat := cntN_congr _ (fun j hj => by rw [hg1001]; exact pk_un (by omega))
      have hc1 : cntN g1001 (x5.toInt.toNat + 1) = cntN g x5.toInt.toNat + (if w1001.toInt = 0 then 0 else 1) := by rw [← hgc, ← hgx]; rfl
      rw [hgx] at hv99
      have k108 : ∀ z : Int32, (z.toInt = if w1001.toInt = 0 then 0 else 1) → Wp X D zM292 Q 108 [some (.ref 72), some (.int x1), some (.int x2), some (.int x3), some (.int x4), some (.int x5), u6, u7, u8, u9] [.int z, .int x4] h1001 := by
        intro z hz
        have hz01 : 0 ≤ z.toInt ∧ z.toInt ≤ 1 := by rw [hz]; split <;> decide
        refine w_iadd f292_108 (by omega) (by omega) (fun v108 hv108 => ?_)
        refine wp1 (fun n d => r_istore (L' := [some (.ref 72), some (.int x1), some (.int x2), some (.int x3), some (.int v108), some (.int x5), u6, u7, u8, u9]) f292_109 rfl rfl) ?_
        refine w_iinc f292_111 rfl (by omega) (by omega) (fun v111 hv111 => ?_)
        show Wp _ _ _ _ 114 [some (.ref 72), some (.int x1), some (.int x2), some (.int x3), some (.int v108), some (.int v111), u6, u7, u8, u9] [] _
        refine wp1 (fun n d => r_goto f292_114) ?_
        have e1 : v111.toInt.toNat = x5.toInt.toNat + 1 := by omega
        refine ih v108 v111 σ1 h1001 fs1 g1001 (by omega) (by omega) (by omega) I1001 c1001 c1002 E72_2 ?_ (fun σ' h' g' y4 y5 I' G' d' hc' => kq σ' h' g' y4 y5 I' (dG_trans (dG_trans G1 G1001) G') d' hc')
        rw [e1, hc1, hv108, hz, hc]
        split <;> omega
      refine w_if_eq f292_100 (fun e => ?_) (fun e => ?_)
      · rw [hv99] at e
        refine w_iconst f292_107 (fun v107 hv107 => ?_)
        exact k108 v107 (by rw [hv107]; first | rw [if_pos e] | rw [if_neg e])
      · rw [hv99] at e
        refine w_iconst f292_103 (fun v103 hv103 => ?_)
        refine wp1 (fun n d => r_goto f292_104) ?_
        exact k108 v103 (by rw [hv103]; first | rw [if_pos e] | rw [if_neg e])
    refine wp1 (fun n d => r_aloadn f292_49 rfl) ?_
    have F1001 := hI_r I c72 (f := 86) (q := 135) (by decide +kernel)
    refine w_get f292_50 c72 F1001 ?_
    refine wp1 (fun n d => r_iload f292_53 rfl) ?_
    refine wp1 (fun n d => r_aloadn f292_55 rfl) ?_
    refine wp1 (fun n d => r_iload f292_56 rfl) ?_
    refine wp_good G2 (Y := zM202) (show zmt[202]? = some zM202 from rfl) I (ρ := [0, x5.toInt]) (dK_v (kV_of rfl ⟨⟨by decide, by decide⟩, ⟨by show (0 : Int) ≤ _; omega, by show _ ≤ (149 : Int); omega⟩, trivial⟩)) (dL_of (l := [some (.ref 72), some (.int x5)]) ⟨lw_r (by decide), lw_i rfl, trivial⟩) (fun n d v h' e => r_virt (as := [.int x5]) (r := [.int x5, .ref 135]) f292_58 c72 (show zmt[202]? = some zM202 from rfl) rfl rfl rfl rfl rfl rfl e) (by first | decide | (show 2 + 1 ≤ _; omega)) (fun v h1002 σ1002 I1002 G1002 P1002 => ?_)
    obtain ⟨v58, rfl, p58, q58⟩ := rpost_i P1002 rfl
    have p58 : 0 ≤ v58.toInt := p58
    have q58 : v58.toInt ≤ 1 := q58
    show Wp _ _ _ _ 61 [some (.ref 72), some (.int x1), some (.int x2), some (.int x3), some (.int x4), some (.int x5), u6, u7, u8, u9] [.int v58, .int x5, .ref 135] _
    obtain ⟨fs1003, c1003, df1003⟩ := dG_o I.1 G1002 c72 (by decide)
    have F1004 := (df1003 2 rfl).trans F72_2
    have F1005 := (df1003 86 rfl).trans F1001
    have c1006 := dG_a I.1 G1002 c135 (by decide) rfl
    have k89 : ∀ (σ1 : List Nat) (h1 : aH), dI σ1 h1 → dG cC217.2.2.1 σ h σ1 h1 → h1.1[135]? = some (.inl (2, 150, .inl g)) → Wp X D zM292 Q 89 [some (.ref 72), some (.int x1), some (.int x2), some (.int x3), some (.int x4), some (.int x5), u6, u7, u8, u9] [.int x5, .ref 135] h1 := by
      intro σ1 h1 I1 G1 d135
      refine w_iconst f292_89 (fun v hv => ?_)
      exact k90 σ1 h1 v I1 G1 d135 (Or.inl hv)
    refine w_if_eq f292_61 (fun e61 => k89 _ _ I1002 (dG_sub (by decide) G1002) c1006) (fun e61 => ?_)
    refine wp1 (fun n d => r_aloadn f292_64 rfl) ?_
    have F1007 := hI_r I1002 c1003 (f := 4) (q := 74) (by decide +kernel)
    refine w_get f292_65 c1003 F1007 ?_
    refine wp1 (fun n d => r_iload f292_68 rfl) ?_
    obtain ⟨g1008, c1008, R1008⟩ := hI_a I1002 (r := 74) (a := 0) (n := 150) (lo := 0) (hi := 3) (by decide +kernel)
    refine w_iald f292_70 c1008 (by omega) (by omega) (fun v70 hv70 => ?_)
    have bv70 := R1008 x5.toInt.toNat (by omega)
    rw [← hv70] at bv70
    refine wp1 (fun n d => r_iloadn f292_71 rfl) ?_
    refine w_icmp_ne f292_72 (fun e72 => k89 _ _ I1002 (dG_sub (by decide) G1002) c1006) (fun e72 => ?_)
    refine wp1 (fun n d => r_aloadn f292_75 rfl) ?_
    refine wp1 (fun n d => r_iload f292_76 rfl) ?_
    refine wp1 (fun n d => r_iloadn f292_78 rfl) ?_
    refine wp_good G4 (Y := zM291) (show zmt[291]? = some zM291 from rfl) I1002 (ρ := [0, x5.toInt, x2.toInt]) (dK_v (kV_of rfl ⟨⟨by decide, by decide⟩, ⟨by show (0 : Int) ≤ _; omega, by show _ ≤ (149 : Int); omega⟩, ⟨by show (0 : Int) ≤ _; omega, by show _ ≤ (9 : Int); omega⟩, trivial⟩)) (dL_of (l := [some (.ref 72), some (.int x5), some (.int x2), none]) ⟨lw_r (by decide), lw_i rfl, lw_i rfl, lw_0, trivial⟩) (fun n d v h' e => r_virt (as := [.int x5, .int x2]) (r := [.int x5, .ref 135]) f292_79 c1003 (show zmt[291]? = some zM291 from rfl) rfl rfl rfl rfl rfl rfl e) (by first | decide | (show 1 + 1 ≤ _; omega)) (fun v h1009 σ1009 I1009 G1009 P1009 => ?_)
    obtain ⟨v79, rfl, p79, q79⟩ := rpost_i P1009 rfl
    have p79 : 0 ≤ v79.toInt := p79
    have q79 : v79.toInt ≤ 1 := q79
    show Wp _ _ _ _ 82 [some (.ref 72), some (.int x1), some (.int x2), some (.int x3), some (.int x4), some (.int x5), u6, u7, u8, u9] [.int v79, .int x5, .ref 135] _
    obtain ⟨fs1010, c1010, df1010⟩ := dG_o I1002.1 G1009 c1003 (by decide)
    have F1011 := (df1010 2 rfl).trans F1004
    have F1012 := (df1010 86 rfl).trans F1005
    have F1013 := (df1010 4 rfl).trans F1007
    have c1014 := dG_a I1002.1 G1009 c1006 (by decide) rfl
    have c1015 := dG_a I1002.1 G1009 c1008 (by decide) rfl
    refine w_if_eq f292_82 (fun e82 => k89 _ _ I1009 (dG_trans (dG_sub (by decide) G1002) (dG_sub (by decide) G1009)) c1014) (fun e82 => ?_)
    refine w_iconst f292_85 (fun v85 hv85 => ?_)
    refine wp1 (fun n d => r_goto f292_86) ?_
    exact k90 _ _ v85 I1009 (dG_trans (dG_sub (by decide) G1002) (dG_sub (by decide) G1009)) c1014 (Or.inr hv85)
theorem drawO {X : aX} {D : Nat} (G5 : dGood X cC305) (hD : 4 ≤ D) {Q : Option Value → aH → Prop} {x1 x2 x3 x4 x5 nb : Int32} (y0 : 0 ≤ x2.toInt) (y1 : x2.toInt ≤ 9) (n0 : 0 ≤ nb.toInt) (n1 : nb.toInt ≤ 150) (b4 : x4.toInt ≤ 150) (b5 : x5.toInt ≤ x4.toInt) (b5' : x5.toInt ≤ 9) (b5z : 0 ≤ x5.toInt) : ∀ (k : Nat) (x6 : Int32) (u7 u8 u9 : Option Value) (σ : List Nat) (h : aH) (fs : List Value) (g : Nat → Int32), (x5.toInt - x6.toInt).toNat = k → 0 ≤ x6.toInt → dI σ h → h.1[135]? = some (.inl (2, 150, .inl g)) → h.1[72]? = some (.inr (12, fs)) → fs[2]? = some (.int nb) → x4.toInt - x6.toInt = cntN g nb.toInt.toNat →
    (∀ (σ' : List Nat) (h' : aH) (x6' : Int32) (v7 v8 v9 : Option Value), dI σ' h' → dG cC217.2.2.1 σ h σ' h' → Wp X D zM292 Q 308 [some (.ref 72), some (.int x1), some (.int x2), some (.int x3), some (.int x4), some (.int x5), some (.int x6'), v7, v8, v9] [] h') → Wp X D zM292 Q 128 [some (.ref 72), some (.int x1), some (.int x2), some (.int x3), some (.int x4), some (.int x5), some (.int x6), u7, u8, u9] [] h := by
  intro k
  induction k with
  | zero =>
    intro x6 u7 u8 u9 σ h fs g hk a0 I c135 c72 F72_2 hc kq
    refine wp1 (fun n d => r_iload f292_128 rfl) ?_
    refine wp1 (fun n d => r_iload f292_130 rfl) ?_
    exact w_icmp_ge f292_132 (fun e => kq σ h x6 _ _ _ I (dG_refl _ _ _)) (fun e => absurd e (by omega))
  | succ k ih =>
    intro x6 u7 u8 u9 σ h fs g hk a0 I c135 c72 F72_2 hc kq
    have F72_86 := hI_r I c72 (f := 86) (q := 135) (by decide +kernel)
    refine wp1 (fun n d => r_iload f292_128 rfl) ?_
    refine wp1 (fun n d => r_iload f292_130 rfl) ?_
    refine w_icmp_ge f292_132 (fun e132 => absurd e132 (by omega)) (fun e132 => ?_)
    have k285 : ∀ (σ1 : List Nat) (h1 : aH) (x7 : Int32) (v8 v9 : Option Value), dI σ1 h1 → dG cC217.2.2.1 σ h σ1 h1 → h1.1[135]? = some (.inl (2, 150, .inl g)) → 0 ≤ x7.toInt → x7.toInt.toNat < nb.toInt.toNat → (g x7.toInt.toNat).toInt ≠ 0 → Wp X D zM292 Q 285 [some (.ref 72), some (.int x1), some (.int x2), some (.int x3), some (.int x4), some (.int x5), some (.int x6), some (.int x7), v8, v9] [] h1 := by
      intro σ1 h1 x7 v8 v9 I1 G1 d135 i1 i2 i3
      obtain ⟨fs1, d72, dfs⟩ := dG_o I.1 G1 c72 (by decide)
      have E72_2 := (dfs 2 rfl).trans F72_2
      revert v8 v9; intro u8 u9
      refine wp1 (fun n d => r_aloadn f292_285 rfl) ?_
      have F1001 := hI_r I1 d72 (f := 86) (q := 135) (by decide +kernel)
      refine w_get f292_286 d72 F1001 ?_
      refine wp1 (fun n d => r_iload f292_289 rfl) ?_
      refine w_iconst f292_291 (fun v291 hv291 => ?_)
      refine w_zastI f292_292 d135 (by omega) (by omega) I1 (W := cC217.2.2.1) (by decide +kernel) (by decide) (by omega) (fun h1002 w1002 hw1002 I1002 G1002 c1002 ne1002 => ?_)
      obtain ⟨g1002, hg1002⟩ : ∃ g', g' = upd g x7.toInt.toNat w1002 := ⟨_, rfl⟩
      rw [← hg1002] at c1002
      have c1003 := (ne1002 72 (by decide)).trans d72
      refine wp1 (fun n d => r_aloadn f292_293 rfl) ?_
      have F1004 := hI_r I1002 c1003 (f := 85) (q := 134) (by decide +kernel)
      refine w_get f292_294 c1003 F1004 ?_
      refine wp1 (fun n d => r_iload f292_297 rfl) ?_
      refine wp1 (fun n d => r_iload f292_299 rfl) ?_
      obtain ⟨g1005, c1005, R1005⟩ := hI_a I1002 (r := 134) (a := 0) (n := 9) (lo := (-2147483648)) (hi := 2147483647) (by decide +kernel)
      refine w_iastI f292_301 c1005 (by omega) (by omega) I1002 (W := cC217.2.2.1) (lo := (-2147483648)) (hi := 2147483647) (by decide +kernel) (by decide) (iR x7).1 (iR x7).2 (fun h1006 I1006 G1006 c1006 ne1006 => ?_)
      obtain ⟨g1006, hg1006⟩ : ∃ g', g' = upd g1005 x6.toInt.toNat x7 := ⟨_, rfl⟩
      rw [← hg1006] at c1006
      have c1007 := (ne1006 72 (by decide)).trans c1003
      have c1008 := (ne1006 135 (by decide)).trans c1002
      refine w_iinc f292_302 rfl (by omega) (by omega) (fun v302 hv302 => ?_)
      show Wp _ _ _ _ 305 [some (.ref 72), some (.int x1), some (.int x2), some (.int x3), some (.int x4), some (.int x5), some (.int v302), some (.int x7), u8, u9] [] _
      refine wp1 (fun n d => r_goto f292_305) ?_
      have hu := cntN_upd g x7.toInt.toNat w1002 (by omega) i3 nb.toInt.toNat i2
      rw [← hg1002] at hu
      exact ih v302 (some (.int x7)) u8 u9 σ1 h1006 fs1 g1002 (by omega) (by omega) I1006 c1008 c1007 E72_2 (by omega) (fun σ' h' y6 w7 w8 w9 I' G' => kq σ' h' y6 w7 w8 w9 I' (dG_trans (dG_trans G1 (dG_trans G1002 G1006)) G'))
    refine w_iconst f292_135 (fun v135 hv135 => ?_)
    refine wp1 (fun n d => r_istore (L' := [some (.ref 72), some (.int x1), some (.int x2), some (.int x3), some (.int x4), some (.int x5), some (.int x6), some (.int v135), u8, u9]) f292_136 rfl rfl) ?_
    refine wp1 (fun n d => r_iload f292_138 rfl) ?_
    refine wp1 (fun n d => r_iload f292_140 rfl) ?_
    refine w_iconst f292_142 (fun v142 hv142 => ?_)
    refine w_iadd f292_143 (by omega) (by omega) (fun v143 hv143 => ?_)
    refine w_iconst f292_144 (fun v144 hv144 => ?_)
    refine w_idiv f292_145 (by omega) (by omega) (fun v145 hv145 gv145 ev145 => ?_)
    refine w_icmp_ge f292_146 (fun e146 => ?_) (fun e146 => ?_)
    · refine wp1 (fun n d => r_aloadn f292_206 rfl) ?_
      refine wp1 (fun n d => r_aloadn f292_207 rfl) ?_
      obtain ⟨x83_1001, F1001, lo1001, hi1001⟩ := hI_i I c72 (f := 83) (lo := (-2147483648)) (hi := 2147483647) (by decide +kernel)
      refine w_get f292_208 c72 F1001 ?_
      refine w_ldc_w f292_211 (fun v211 hv211 => ?_)
      have hv211 : v211.toInt = 1103515245 := hv211
      refine w_imul' f292_214 (fun v214 => ?_)
      refine w_sipush f292_215 (fun v215 hv215 => ?_)
      refine w_iadd' f292_218 (fun v218 => ?_)
      refine w_putI f292_219 c72 I (W := cC217.2.2.1) (lo := (-2147483648)) (hi := 2147483647) (by decide +kernel) (by decide) (by decide) (iR v218).1 (iR v218).2 (by decide) (by first | rfl | (simp [aok, zY])) (fun h1002 fs1002 I1002 G1002 c1002 Fx1002 nf1002 ne1002 => ?_)
      have c1003 := (ne1002 135 (by decide)).trans c135
      have F1004 := (nf1002 2 (by decide)).trans F72_2
      have F1005 := (nf1002 86 (by decide)).trans F72_86
      refine wp1 (fun n d => r_aloadn f292_222 rfl) ?_
      refine w_get f292_223 c1002 Fx1002 ?_
      refine w_bipush f292_226 (fun v226 hv226 => ?_)
      refine w_iushr f292_228 (by omega) (by omega) (fun v228 hv228 => ?_)
      refine wp1 (fun n d => r_iload f292_229 rfl) ?_
      refine wp1 (fun n d => r_iload f292_231 rfl) ?_
      refine w_isub f292_233 (by omega) (by omega) (fun v233 hv233 => ?_)
      refine w_irem f292_234 (by omega) (by omega) (fun v234 hv234 gv234 ev234 => ?_)
      refine wp1 (fun n d => r_istore (L' := [some (.ref 72), some (.int x1), some (.int x2), some (.int x3), some (.int x4), some (.int x5), some (.int x6), some (.int v135), some (.int v234), u9]) f292_235 rfl rfl) ?_
      refine w_iconst f292_237 (fun v237 hv237 => ?_)
      refine wp1 (fun n d => r_istore (L' := [some (.ref 72), some (.int x1), some (.int x2), some (.int x3), some (.int x4), some (.int x5), some (.int x6), some (.int v135), some (.int v234), some (.int v237)]) f292_238 rfl rfl) ?_
      exact drawB (σ := σ) (rr := v234.toInt) n0 n1 c1003 c1002 F1004 F1005 (by omega) (fun x7' x8' x9' j1 j2 j3 => k285 _ _ x7' _ _ I1002 G1002 c1003 j1 j2 j3) _ v135 v234 v237 rfl (by omega) (by omega) (Or.inl ⟨hv135, by omega, by
        rw [show v237.toInt.toNat = 0 by omega]
        show _ + ((0 : Nat) : Int) = _
        omega⟩)
    · refine w_iconst f292_149 (fun v149 hv149 => ?_)
      refine wp1 (fun n d => r_istore (L' := [some (.ref 72), some (.int x1), some (.int x2), some (.int x3), some (.int x4), some (.int x5), some (.int x6), some (.int v135), some (.int v149), u9]) f292_150 rfl rfl) ?_
      refine drawA G5 hD y0 y1 n0 n1 _ v135 v149 σ h fs rfl (by omega) (by omega) I c135 c72 F72_2 F72_86 (Or.inl ⟨hv135, by rw [show v149.toInt.toNat = 0 by omega]; rfl⟩) (fun σ' h' x7' x8' I' G' inv => ?_)
      refine wp1 (fun n d => r_goto f292_203) ?_
      obtain ⟨j1, j2, j3⟩ : 0 ≤ x7'.toInt ∧ x7'.toInt.toNat < nb.toInt.toNat ∧ (g x7'.toInt.toNat).toInt ≠ 0 := by
        rcases inv with ⟨i1, i2⟩ | i
        · omega
        · exact i
      exact k285 σ' h' x7' _ _ I' (dG_sub (by decide) G') (dG_a I.1 G' c135 (by decide) rfl) j1 j2 j3
theorem hand_217 {X : aX} (G2 : dGood X cC302) (G4 : dGood X cC304) (G5 : dGood X cC305) (G71 : dGood X cC71) : dGood X cC217 := by
  intro M hM l h σ ρ rh I K L
  have hM0 : zmt[292]? = some zM292 := rfl
  cases (show zmt[292]? = some M from hM).symm.trans hM0
  have a0 := dL_r L (i := 0) (c := 72) (o := 0) rfl (by decide)
  obtain ⟨x1, a1, b1, b1'⟩ := hL_i L K.1 (i := 1) (p := 1) (o := 0) (lo := -2147483648) (hi := 2147483647) rfl rfl
  obtain ⟨x2, a2, b2, b2'⟩ := hL_i L K.1 (i := 2) (p := 2) (o := 0) (lo := -2147483648) (hi := 2147483647) rfl rfl
  obtain ⟨x3, a3, b3, b3'⟩ := hL_i L K.1 (i := 3) (p := 3) (o := 0) (lo := -2147483648) (hi := 2147483647) rfl rfl
  obtain ⟨u0, l1, rfl, e1⟩ := hcons (show l.length = 10 from L.1)
  obtain ⟨u1, l2, rfl, e2⟩ := hcons e1
  obtain ⟨u2, l3, rfl, e3⟩ := hcons e2
  obtain ⟨u3, l4, rfl, e4⟩ := hcons e3
  obtain ⟨u4, l5, rfl, e5⟩ := hcons e4
  obtain ⟨u5, l6, rfl, e6⟩ := hcons e5
  obtain ⟨u6, l7, rfl, e7⟩ := hcons e6
  obtain ⟨u7, l8, rfl, e8⟩ := hcons e7
  obtain ⟨u8, l9, rfl, e9⟩ := hcons e8
  obtain ⟨u9, l10, rfl, e10⟩ := hcons e9
  cases hnil e10
  cases Option.some.inj a0
  cases Option.some.inj a1
  cases Option.some.inj a2
  cases Option.some.inj a3
  have fin : ∀ (x : Int32) (σ' : List Nat) (h' : aH), dI σ' h' → dG cC217.2.2.1 σ h σ' h' → hQ cC217 σ h (some (.int x)) h' := fun x σ' h' I' G' => ⟨σ', I', G', _, List.mem_cons_self, post_i I'.1 (iR x).1 (iR x).2⟩
  refine hEnd ?_
  show Wp X 30 zM292 _ 0 [some (.ref 72), some (.int x1), some (.int x2), some (.int x3), u4, u5, u6, u7, u8, u9] [] h
  have k24 : Wp X 30 zM292 (hQ cC217 σ h) 24 [some (.ref 72), some (.int x1), some (.int x2), some (.int x3), u4, u5, u6, u7, u8, u9] [] h := w_iconst f292_24 (fun v _ => wp_end (fun n d => r_ireturn f292_25 rfl) (fin v σ h I (dG_refl _ _ _)))
  refine wp1 (fun n d => r_iloadn f292_0 rfl) ?_
  refine wp_in (lv := 1) (Y := zM206) (isLand_wp (x := x1)) (fun n d v h' e => r_stat (as := [.int x1]) (r := []) f292_1 rfl (show zmt[206]? = some zM206 from rfl) rfl rfl rfl rfl rfl rfl e) (by first | decide | omega) ?_
  rintro v h' ⟨rfl, v1, rfl, z1, r1⟩
  show Wp _ _ _ _ 4 [some (.ref 72), some (.int x1), some (.int x2), some (.int x3), u4, u5, u6, u7, u8, u9] [.int v1] _
  refine w_if_eq f292_4 (fun e4 => k24) (fun e4 => ?_)
  refine wp1 (fun n d => r_iloadn f292_7 rfl) ?_
  refine wp_in (lv := 1) (Y := zM198) (isYear_wp (x := x2)) (fun n d v h' e => r_stat (as := [.int x2]) (r := []) f292_8 rfl (show zmt[198]? = some zM198 from rfl) rfl rfl rfl rfl rfl rfl e) (by first | decide | omega) ?_
  rintro v h' ⟨rfl, v8, rfl, z2, r2⟩
  show Wp _ _ _ _ 11 [some (.ref 72), some (.int x1), some (.int x2), some (.int x3), u4, u5, u6, u7, u8, u9] [.int v8] _
  refine w_if_eq f292_11 (fun e11 => k24) (fun e11 => ?_)
  refine wp1 (fun n d => r_iloadn f292_14 rfl) ?_
  refine w_iconst f292_15 (fun v15 hv15 => ?_)
  refine w_bipush f292_16 (fun v16 hv16 => ?_)
  refine wp_in (lv := 0) (Y := zM196) (in_wp) (fun n d v h' e => r_stat (as := [.int x3, .int v15, .int v16]) (r := []) f292_18 rfl (show zmt[196]? = some zM196 from rfl) rfl rfl rfl rfl rfl rfl e) (by first | decide | omega) ?_
  rintro v h' ⟨rfl, v18, rfl, z3, r3⟩
  show Wp _ _ _ _ 21 [some (.ref 72), some (.int x1), some (.int x2), some (.int x3), u4, u5, u6, u7, u8, u9] [.int v18] _
  refine w_if_ne f292_21 (fun e21 => ?_) (fun _ => k24)
  have R2 := r2 (by omega)
  have R3 := r3 (by omega)
  refine wp1 (fun n d => r_aloadn f292_26 rfl) ?_
  refine wp1 (fun n d => r_aloadn f292_27 rfl) ?_
  obtain ⟨fs1001, c1001⟩ := hI_o I (r := 72) (ci := 12) (by decide +kernel)
  obtain ⟨x1_1002, F1002, lo1002, hi1002⟩ := hI_i I c1001 (f := 1) (lo := 0) (hi := 3649) (by decide +kernel)
  refine w_get f292_28 c1001 F1002 ?_
  refine wp_good G71 (Y := zM239) (show zmt[239]? = some zM239 from rfl) I (ρ := [0, x1_1002.toInt]) (dK_v (kV_of rfl ⟨⟨by decide, by decide⟩, ⟨by show (0 : Int) ≤ _; omega, by show _ ≤ (3649 : Int); omega⟩, trivial⟩)) (dL_of (l := [some (.ref 72), some (.int x1_1002), none, none, none]) ⟨lw_r (by decide), lw_i rfl, lw_0, lw_0, lw_0, trivial⟩) (fun n d v h' e => r_virt (as := [.int x1_1002]) (r := []) f292_31 c1001 (show zmt[239]? = some zM239 from rfl) rfl rfl rfl rfl rfl rfl e) (by first | decide | (show 3 + 1 ≤ _; omega)) (fun v h1003 σ1003 I1003 G1003 P1003 => ?_)
  cases rpost_0 P1003 rfl
  show Wp _ _ _ _ 34 [some (.ref 72), some (.int x1), some (.int x2), some (.int x3), u4, u5, u6, u7, u8, u9] [] _
  obtain ⟨fs1004, c1004, df1004⟩ := dG_o I.1 G1003 c1001 (by decide)
  have F1005 := (df1004 1 rfl).trans F1002
  obtain ⟨x2_1006, F1006, lo1006, hi1006⟩ := hI_i I1003 c1004 (f := 2) (lo := 0) (hi := 150) (by decide +kernel)
  refine w_iconst f292_34 (fun v34 hv34 => ?_)
  refine wp1 (fun n d => r_istore (L' := [some (.ref 72), some (.int x1), some (.int x2), some (.int x3), some (.int v34), u5, u6, u7, u8, u9]) f292_35 rfl rfl) ?_
  refine w_iconst f292_37 (fun v37 hv37 => ?_)
  refine wp1 (fun n d => r_istore (L' := [some (.ref 72), some (.int x1), some (.int x2), some (.int x3), some (.int v34), some (.int v37), u6, u7, u8, u9]) f292_38 rfl rfl) ?_
  obtain ⟨g1007, c1007, R1007⟩ := hI_a I1003 (r := 135) (a := 2) (n := 150) (lo := 0) (hi := 1) (by decide +kernel)
  refine drawC G2 G4 (by decide) (nb := x2_1006) (by omega) (by omega) (by omega) (by omega) _ v34 v37 _ _ _ _ rfl (by omega) (by omega) I1003 c1007 c1004 F1006 ?_ (fun σ1 h1 g1 x4 x5 I1 G1 c1 hc1 => ?_)
  · rw [show v37.toInt.toNat = 0 by omega]
    show _ = ((0 : Nat) : Int)
    omega
  have hle := cntN_le g1 x2_1006.toInt.toNat
  obtain ⟨fsb, cb, dfb⟩ := dG_o I1003.1 G1 c1004 (by decide)
  have Fb := (dfb 2 rfl).trans F1006
  refine wp1 (fun n d => r_iloadn f292_117 rfl) ?_
  refine wp1 (fun n d => r_iload f292_118 rfl) ?_
  refine wp_in (lv := 0) (Y := zM211) (lesser_wp) (fun n d v h' e => r_stat (as := [.int x3, .int x4]) (r := []) f292_120 rfl (show zmt[211]? = some zM211 from rfl) rfl rfl rfl rfl rfl rfl e) (by first | decide | omega) ?_
  rintro v h' ⟨rfl, v120, rfl, r5⟩
  show Wp _ _ _ _ 123 [some (.ref 72), some (.int x1), some (.int x2), some (.int x3), some (.int x4), some (.int x5), u6, u7, u8, u9] [.int v120] _
  refine wp1 (fun n d => r_istore (L' := [some (.ref 72), some (.int x1), some (.int x2), some (.int x3), some (.int x4), some (.int v120), u6, u7, u8, u9]) f292_123 rfl rfl) ?_
  refine w_iconst f292_125 (fun v125 hv125 => ?_)
  refine wp1 (fun n d => r_istore (L' := [some (.ref 72), some (.int x1), some (.int x2), some (.int x3), some (.int x4), some (.int v120), some (.int v125), u7, u8, u9]) f292_126 rfl rfl) ?_
  have B5 : v120.toInt ≤ x3.toInt ∧ v120.toInt ≤ x4.toInt ∧ 0 ≤ v120.toInt := by
    rcases r5 with ⟨rfl, q⟩ | ⟨rfl, q⟩ <;> omega
  refine drawO G5 (by decide) (by omega) (by omega) (nb := x2_1006) (by omega) (by omega) (by omega) (by omega) (by omega) (by omega) _ v125 _ _ _ σ1 h1 fsb g1 rfl (by omega) I1 c1 cb Fb (by omega) (fun σ2 h2 y6 w7 w8 w9 I2 G2' => ?_)
  revert w7 w8 w9; intro u7 u8 u9
  refine wp1 (fun n d => r_aloadn f292_308 rfl) ?_
  refine wp1 (fun n d => r_iload f292_309 rfl) ?_
  obtain ⟨fs3001, c3001⟩ := hI_o I2 (r := 72) (ci := 12) (by decide +kernel)
  refine w_putI f292_311 c3001 I2 (W := cC217.2.2.1) (lo := (-1)) (hi := 9) (by decide +kernel) (by decide) (by decide) (by omega) (by omega) (by decide) (by first | rfl | (simp [aok, zY])) (fun h3002 fs3002 I3002 G3002 c3002 Fx3002 nf3002 ne3002 => ?_)
  refine wp1 (fun n d => r_iload f292_314 rfl) ?_
  exact wp_end (fun n d => r_ireturn f292_316 rfl) (fin v120 _ _ I3002 (dG_trans (dG_sub (by decide) G1003) (dG_trans G1 (dG_trans G2' G3002))))

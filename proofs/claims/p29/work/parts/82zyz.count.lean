-- ===== count =====
theorem gx326_0 : aF 0 zM326.2.2.2.2.2.2.2 = some (0, (.iconst 0), 1, 0, 0) := by decide +kernel
theorem gx326_1 : aF 1 zM326.2.2.2.2.2.2.2 = some (1, (.istore_n 2), 1, 0, 0) := by decide +kernel
theorem gx326_2 : aF 2 zM326.2.2.2.2.2.2.2 = some (2, (.iconst 0), 1, 0, 0) := by decide +kernel
theorem gx326_3 : aF 3 zM326.2.2.2.2.2.2.2 = some (3, (.istore_n 3), 1, 0, 0) := by decide +kernel
theorem gx326_4 : aF 4 zM326.2.2.2.2.2.2.2 = some (4, (.iload_n 3), 1, 0, 0) := by decide +kernel
theorem gx326_5 : aF 5 zM326.2.2.2.2.2.2.2 = some (5, (.aload_n 0), 1, 0, 0) := by decide +kernel
theorem gx326_6 : aF 6 zM326.2.2.2.2.2.2.2 = some (6, (.getfield 265), 3, 12, 2) := by decide +kernel
theorem gx326_9 : aF 9 zM326.2.2.2.2.2.2.2 = some (9, (.if_icmp .ge 30), 3, 39, 0) := by decide +kernel
theorem gx326_39 : aF 39 zM326.2.2.2.2.2.2.2 = some (39, (.iload_n 2), 1, 0, 0) := by decide +kernel
theorem gx326_40 : aF 40 zM326.2.2.2.2.2.2.2 = some (40, .ireturn, 1, 0, 0) := by decide +kernel
theorem gx326_12 : aF 12 zM326.2.2.2.2.2.2.2 = some (12, (.iload_n 2), 1, 0, 0) := by decide +kernel
theorem gx326_13 : aF 13 zM326.2.2.2.2.2.2.2 = some (13, (.aload_n 0), 1, 0, 0) := by decide +kernel
theorem gx326_14 : aF 14 zM326.2.2.2.2.2.2.2 = some (14, (.getfield 7), 3, 12, 3) := by decide +kernel
theorem gx326_17 : aF 17 zM326.2.2.2.2.2.2.2 = some (17, (.iload_n 3), 1, 0, 0) := by decide +kernel
theorem gx326_18 : aF 18 zM326.2.2.2.2.2.2.2 = some (18, .iaload, 1, 0, 0) := by decide +kernel
theorem gx326_19 : aF 19 zM326.2.2.2.2.2.2.2 = some (19, (.iload_n 1), 1, 0, 0) := by decide +kernel
theorem gx326_20 : aF 20 zM326.2.2.2.2.2.2.2 = some (20, (.invokestatic 272), 3, 201, 0) := by decide +kernel
theorem gx326_23 : aF 23 zM326.2.2.2.2.2.2.2 = some (23, (.ifCond .eq 7), 3, 30, 0) := by decide +kernel
theorem gx326_30 : aF 30 zM326.2.2.2.2.2.2.2 = some (30, (.iconst 0), 1, 0, 0) := by decide +kernel
theorem gx326_31 : aF 31 zM326.2.2.2.2.2.2.2 = some (31, .iadd, 1, 0, 0) := by decide +kernel
theorem gx326_32 : aF 32 zM326.2.2.2.2.2.2.2 = some (32, (.istore_n 2), 1, 0, 0) := by decide +kernel
theorem gx326_33 : aF 33 zM326.2.2.2.2.2.2.2 = some (33, (.iinc 3 1), 3, 0, 0) := by decide +kernel
theorem gx326_36 : aF 36 zM326.2.2.2.2.2.2.2 = some (36, (.goto (-32)), 3, 4, 0) := by decide +kernel
theorem gx326_26 : aF 26 zM326.2.2.2.2.2.2.2 = some (26, (.iconst 1), 1, 0, 0) := by decide +kernel
theorem gx326_27 : aF 27 zM326.2.2.2.2.2.2.2 = some (27, (.goto 4), 3, 31, 0) := by decide +kernel
theorem gx194_0 : aF 0 zM194.2.2.2.2.2.2.2 = some (0, (.iload_n 1), 1, 0, 0) := by decide +kernel
theorem gx194_1 : aF 1 zM194.2.2.2.2.2.2.2 = some (1, (.tableswitch 159 0 11 #[63, 71, 79, 87, 95, 103, 111, 119, 127, 135, 143, 151]), 63, 0, 0) := by decide +kernel
theorem gx194_64 : aF 64 zM194.2.2.2.2.2.2.2 = some (64, (.aload_n 0), 1, 0, 0) := by decide +kernel
theorem gx194_65 : aF 65 zM194.2.2.2.2.2.2.2 = some (65, (.getfield 12), 3, 11, 0) := by decide +kernel
theorem gx194_68 : aF 68 zM194.2.2.2.2.2.2.2 = some (68, (.getfield 394), 3, 6, 1) := by decide +kernel
theorem gx194_71 : aF 71 zM194.2.2.2.2.2.2.2 = some (71, .ireturn, 1, 0, 0) := by decide +kernel
theorem gx194_72 : aF 72 zM194.2.2.2.2.2.2.2 = some (72, (.aload_n 0), 1, 0, 0) := by decide +kernel
theorem gx194_73 : aF 73 zM194.2.2.2.2.2.2.2 = some (73, (.getfield 12), 3, 11, 0) := by decide +kernel
theorem gx194_76 : aF 76 zM194.2.2.2.2.2.2.2 = some (76, (.getfield 395), 3, 6, 2) := by decide +kernel
theorem gx194_79 : aF 79 zM194.2.2.2.2.2.2.2 = some (79, .ireturn, 1, 0, 0) := by decide +kernel
theorem gx194_80 : aF 80 zM194.2.2.2.2.2.2.2 = some (80, (.aload_n 0), 1, 0, 0) := by decide +kernel
theorem gx194_81 : aF 81 zM194.2.2.2.2.2.2.2 = some (81, (.getfield 12), 3, 11, 0) := by decide +kernel
theorem gx194_84 : aF 84 zM194.2.2.2.2.2.2.2 = some (84, (.getfield 398), 3, 6, 3) := by decide +kernel
theorem gx194_87 : aF 87 zM194.2.2.2.2.2.2.2 = some (87, .ireturn, 1, 0, 0) := by decide +kernel
theorem gx194_88 : aF 88 zM194.2.2.2.2.2.2.2 = some (88, (.aload_n 0), 1, 0, 0) := by decide +kernel
theorem gx194_89 : aF 89 zM194.2.2.2.2.2.2.2 = some (89, (.getfield 12), 3, 11, 0) := by decide +kernel
theorem gx194_92 : aF 92 zM194.2.2.2.2.2.2.2 = some (92, (.getfield 401), 3, 6, 4) := by decide +kernel
theorem gx194_95 : aF 95 zM194.2.2.2.2.2.2.2 = some (95, .ireturn, 1, 0, 0) := by decide +kernel
theorem gx194_96 : aF 96 zM194.2.2.2.2.2.2.2 = some (96, (.aload_n 0), 1, 0, 0) := by decide +kernel
theorem gx194_97 : aF 97 zM194.2.2.2.2.2.2.2 = some (97, (.getfield 28), 3, 11, 2) := by decide +kernel
theorem gx194_100 : aF 100 zM194.2.2.2.2.2.2.2 = some (100, (.getfield 176), 3, 2, 1) := by decide +kernel
theorem gx194_103 : aF 103 zM194.2.2.2.2.2.2.2 = some (103, .ireturn, 1, 0, 0) := by decide +kernel
theorem gx194_104 : aF 104 zM194.2.2.2.2.2.2.2 = some (104, (.aload_n 0), 1, 0, 0) := by decide +kernel
theorem gx194_105 : aF 105 zM194.2.2.2.2.2.2.2 = some (105, (.getfield 12), 3, 11, 0) := by decide +kernel
theorem gx194_108 : aF 108 zM194.2.2.2.2.2.2.2 = some (108, (.getfield 167), 3, 6, 6) := by decide +kernel
theorem gx194_111 : aF 111 zM194.2.2.2.2.2.2.2 = some (111, .ireturn, 1, 0, 0) := by decide +kernel
theorem gx194_112 : aF 112 zM194.2.2.2.2.2.2.2 = some (112, (.aload_n 0), 1, 0, 0) := by decide +kernel
theorem gx194_113 : aF 113 zM194.2.2.2.2.2.2.2 = some (113, (.getfield 28), 3, 11, 2) := by decide +kernel
theorem gx194_116 : aF 116 zM194.2.2.2.2.2.2.2 = some (116, (.getfield 221), 3, 2, 3) := by decide +kernel
theorem gx194_119 : aF 119 zM194.2.2.2.2.2.2.2 = some (119, .ireturn, 1, 0, 0) := by decide +kernel
theorem gx194_120 : aF 120 zM194.2.2.2.2.2.2.2 = some (120, (.aload_n 0), 1, 0, 0) := by decide +kernel
theorem gx194_121 : aF 121 zM194.2.2.2.2.2.2.2 = some (121, (.getfield 12), 3, 11, 0) := by decide +kernel
theorem gx194_124 : aF 124 zM194.2.2.2.2.2.2.2 = some (124, (.getfield 93), 3, 6, 0) := by decide +kernel
theorem gx194_127 : aF 127 zM194.2.2.2.2.2.2.2 = some (127, .ireturn, 1, 0, 0) := by decide +kernel
theorem gx194_128 : aF 128 zM194.2.2.2.2.2.2.2 = some (128, (.aload_n 0), 1, 0, 0) := by decide +kernel
theorem gx194_129 : aF 129 zM194.2.2.2.2.2.2.2 = some (129, (.getfield 35), 3, 11, 3) := by decide +kernel
theorem gx194_132 : aF 132 zM194.2.2.2.2.2.2.2 = some (132, (.getfield 260), 3, 10, 7) := by decide +kernel
theorem gx194_135 : aF 135 zM194.2.2.2.2.2.2.2 = some (135, .ireturn, 1, 0, 0) := by decide +kernel
theorem gx194_136 : aF 136 zM194.2.2.2.2.2.2.2 = some (136, (.aload_n 0), 1, 0, 0) := by decide +kernel
theorem gx194_137 : aF 137 zM194.2.2.2.2.2.2.2 = some (137, (.getfield 35), 3, 11, 3) := by decide +kernel
theorem gx194_140 : aF 140 zM194.2.2.2.2.2.2.2 = some (140, (.getfield 251), 3, 10, 1) := by decide +kernel
theorem gx194_143 : aF 143 zM194.2.2.2.2.2.2.2 = some (143, .ireturn, 1, 0, 0) := by decide +kernel
theorem gx194_144 : aF 144 zM194.2.2.2.2.2.2.2 = some (144, (.aload_n 0), 1, 0, 0) := by decide +kernel
theorem gx194_145 : aF 145 zM194.2.2.2.2.2.2.2 = some (145, (.getfield 19), 3, 11, 1) := by decide +kernel
theorem gx194_148 : aF 148 zM194.2.2.2.2.2.2.2 = some (148, (.getfield 108), 3, 7, 2) := by decide +kernel
theorem gx194_151 : aF 151 zM194.2.2.2.2.2.2.2 = some (151, .ireturn, 1, 0, 0) := by decide +kernel
theorem gx194_152 : aF 152 zM194.2.2.2.2.2.2.2 = some (152, (.aload_n 0), 1, 0, 0) := by decide +kernel
theorem gx194_153 : aF 153 zM194.2.2.2.2.2.2.2 = some (153, (.getfield 74), 3, 11, 8) := by decide +kernel
theorem gx194_156 : aF 156 zM194.2.2.2.2.2.2.2 = some (156, (.getfield 349), 3, 1, 1) := by decide +kernel
theorem gx194_159 : aF 159 zM194.2.2.2.2.2.2.2 = some (159, .ireturn, 1, 0, 0) := by decide +kernel
theorem gx194_160 : aF 160 zM194.2.2.2.2.2.2.2 = some (160, (.iconst (-1)), 1, 0, 0) := by decide +kernel
theorem gx194_161 : aF 161 zM194.2.2.2.2.2.2.2 = some (161, .ireturn, 1, 0, 0) := by decide +kernel
theorem gx327_0 : aF 0 zM327.2.2.2.2.2.2.2 = some (0, (.iload_n 1), 1, 0, 0) := by decide +kernel
theorem gx327_1 : aF 1 zM327.2.2.2.2.2.2.2 = some (1, (.tableswitch 127 0 11 #[63, 68, 74, 80, 87, 92, 97, 102, 107, 112, 117, 122]), 63, 0, 0) := by decide +kernel
theorem gx327_64 : aF 64 zM327.2.2.2.2.2.2.2 = some (64, (.aload_n 0), 1, 0, 0) := by decide +kernel
theorem gx327_65 : aF 65 zM327.2.2.2.2.2.2.2 = some (65, (.getfield 265), 3, 12, 2) := by decide +kernel
theorem gx327_68 : aF 68 zM327.2.2.2.2.2.2.2 = some (68, .ireturn, 1, 0, 0) := by decide +kernel
theorem gx327_69 : aF 69 zM327.2.2.2.2.2.2.2 = some (69, (.aload_n 0), 1, 0, 0) := by decide +kernel
theorem gx327_70 : aF 70 zM327.2.2.2.2.2.2.2 = some (70, (.iconst 1), 1, 0, 0) := by decide +kernel
theorem gx327_71 : aF 71 zM327.2.2.2.2.2.2.2 = some (71, (.invokevirtual 599), 3, 326, 0) := by decide +kernel
theorem gx327_74 : aF 74 zM327.2.2.2.2.2.2.2 = some (74, .ireturn, 1, 0, 0) := by decide +kernel
theorem gx327_75 : aF 75 zM327.2.2.2.2.2.2.2 = some (75, (.aload_n 0), 1, 0, 0) := by decide +kernel
theorem gx327_76 : aF 76 zM327.2.2.2.2.2.2.2 = some (76, (.iconst 4), 1, 0, 0) := by decide +kernel
theorem gx327_77 : aF 77 zM327.2.2.2.2.2.2.2 = some (77, (.invokevirtual 599), 3, 326, 0) := by decide +kernel
theorem gx327_80 : aF 80 zM327.2.2.2.2.2.2.2 = some (80, .ireturn, 1, 0, 0) := by decide +kernel
theorem gx327_81 : aF 81 zM327.2.2.2.2.2.2.2 = some (81, (.aload_n 0), 1, 0, 0) := by decide +kernel
theorem gx327_82 : aF 82 zM327.2.2.2.2.2.2.2 = some (82, (.bipush 6), 2, 0, 0) := by decide +kernel
theorem gx327_84 : aF 84 zM327.2.2.2.2.2.2.2 = some (84, (.invokevirtual 599), 3, 326, 0) := by decide +kernel
theorem gx327_87 : aF 87 zM327.2.2.2.2.2.2.2 = some (87, .ireturn, 1, 0, 0) := by decide +kernel
theorem gx327_88 : aF 88 zM327.2.2.2.2.2.2.2 = some (88, (.aload_n 0), 1, 0, 0) := by decide +kernel
theorem gx327_89 : aF 89 zM327.2.2.2.2.2.2.2 = some (89, (.getfield 336), 3, 12, 19) := by decide +kernel
theorem gx327_92 : aF 92 zM327.2.2.2.2.2.2.2 = some (92, .ireturn, 1, 0, 0) := by decide +kernel
theorem gx327_93 : aF 93 zM327.2.2.2.2.2.2.2 = some (93, (.aload_n 0), 1, 0, 0) := by decide +kernel
theorem gx327_94 : aF 94 zM327.2.2.2.2.2.2.2 = some (94, (.getfield 328), 3, 12, 14) := by decide +kernel
theorem gx327_97 : aF 97 zM327.2.2.2.2.2.2.2 = some (97, .ireturn, 1, 0, 0) := by decide +kernel
theorem gx327_98 : aF 98 zM327.2.2.2.2.2.2.2 = some (98, (.aload_n 0), 1, 0, 0) := by decide +kernel
theorem gx327_99 : aF 99 zM327.2.2.2.2.2.2.2 = some (99, (.getfield 352), 3, 12, 32) := by decide +kernel
theorem gx327_102 : aF 102 zM327.2.2.2.2.2.2.2 = some (102, .ireturn, 1, 0, 0) := by decide +kernel
theorem gx327_103 : aF 103 zM327.2.2.2.2.2.2.2 = some (103, (.aload_n 0), 1, 0, 0) := by decide +kernel
theorem gx327_104 : aF 104 zM327.2.2.2.2.2.2.2 = some (104, (.getfield 262), 3, 12, 1) := by decide +kernel
theorem gx327_107 : aF 107 zM327.2.2.2.2.2.2.2 = some (107, .ireturn, 1, 0, 0) := by decide +kernel
theorem gx327_108 : aF 108 zM327.2.2.2.2.2.2.2 = some (108, (.aload_n 0), 1, 0, 0) := by decide +kernel
theorem gx327_109 : aF 109 zM327.2.2.2.2.2.2.2 = some (109, (.getfield 445), 3, 12, 55) := by decide +kernel
theorem gx327_112 : aF 112 zM327.2.2.2.2.2.2.2 = some (112, .ireturn, 1, 0, 0) := by decide +kernel
theorem gx327_113 : aF 113 zM327.2.2.2.2.2.2.2 = some (113, (.aload_n 0), 1, 0, 0) := by decide +kernel
theorem gx327_114 : aF 114 zM327.2.2.2.2.2.2.2 = some (114, (.getfield 391), 3, 12, 54) := by decide +kernel
theorem gx327_117 : aF 117 zM327.2.2.2.2.2.2.2 = some (117, .ireturn, 1, 0, 0) := by decide +kernel
theorem gx327_118 : aF 118 zM327.2.2.2.2.2.2.2 = some (118, (.aload_n 0), 1, 0, 0) := by decide +kernel
theorem gx327_119 : aF 119 zM327.2.2.2.2.2.2.2 = some (119, (.getfield 283), 3, 12, 11) := by decide +kernel
theorem gx327_122 : aF 122 zM327.2.2.2.2.2.2.2 = some (122, .ireturn, 1, 0, 0) := by decide +kernel
theorem gx327_123 : aF 123 zM327.2.2.2.2.2.2.2 = some (123, (.aload_n 0), 1, 0, 0) := by decide +kernel
theorem gx327_124 : aF 124 zM327.2.2.2.2.2.2.2 = some (124, (.getfield 556), 3, 12, 95) := by decide +kernel
theorem gx327_127 : aF 127 zM327.2.2.2.2.2.2.2 = some (127, .ireturn, 1, 0, 0) := by decide +kernel
theorem gx327_128 : aF 128 zM327.2.2.2.2.2.2.2 = some (128, (.iconst (-1)), 1, 0, 0) := by decide +kernel
theorem gx327_129 : aF 129 zM327.2.2.2.2.2.2.2 = some (129, .ireturn, 1, 0, 0) := by decide +kernel
theorem pt_and {n : Nat} {X : aX} {M : aM} {pc : Nat} {l : aL} {st : List Value} {h : aH} {Q1 Q2 : Option Value → aH → Prop} (a : Pt n X M pc l st h Q1) (b : Pt n X M pc l st h Q2) : Pt n X M pc l st h (fun v h' => Q1 v h' ∧ Q2 v h') := fun m hm d v h' e => ⟨a m hm d v h' e, b m hm d v h' e⟩
theorem l_80q {X : aX} {b k : Int} : ∀ (n : Nat) (h : aH) (x1 x2 x3 : Int32), wS h → x2.toInt = b → vw h 1 4 = k → Pt n X zM80 20 [some (.ref 1), some (.int x1), some (.int x2), some (.int x3)] [] h (qI (fun _ h' => vw h' 1 4 = w32 (k + 1))) := by
  intro n
  induction n with
  | zero => exact fun _ _ _ _ _ _ _ => pt_z
  | succ n ih =>
    intro h x1 x2 x3 S hb F
    refine d80_20 S rfl hb rfl ⟨fun e p q g S2 eg => by rw [eg, up_s, F], fun e p q p2 q2 => ⟨fun e2 p3 q3 g S2 eg => by rw [eg, up_s, F], fun e2 p3 q3 g S2 eg y3 h3 => ?_⟩⟩
    exact ih g x1 x2 y3 S2 hb (by rw [eg, up_c (by decide)]; exact F)
def RPer4 (V : vS) (v r : Int) (V' : vS) : Prop := RPer V v r V' ∧ (V' = V ∨ V' 1 4 = w32 (V 1 4 + 1))
theorem c_80q {n : Nat} {X : aX} {h : aH} {x1 : Int32} {a1 : Int} (S : wS h) (z1 : x1.toInt = a1) : Pt n X zM80 0 [some (.ref 1), some (.int x1), none, none] [] h (qI (fun _ h' => vw h' = vw h ∨ vw h' 1 4 = w32 (vw h 1 4 + 1))) := by
  refine pt_d (d80_0 S z1 (fun y g p => ⟨fun e y2 y3 h2 h3 => ?_, fun e => ?_⟩))
  · rcases p.2 with ⟨q1, q2, q3⟩ | ⟨q1, q2, q3, q4⟩
    · omega
    · refine pt_q (l_80q (b := y) (k := vw h 1 4) n g x1 y2 y3 p.1 h2 ?_) ?_
      · rw [q4]
        unfold cAddV
        rw [up_j (by decide), up_j (by decide), up_j (by decide), up_c (by decide), up_c (by decide), up_c (by decide), up_c (by decide), up_c (by decide)]
      · rintro v h' ⟨x, rfl, r1⟩
        exact ⟨x, rfl, Or.inr r1⟩
  · rcases p.2 with ⟨q1, q2, q3⟩ | ⟨q1, q2, q3, q4⟩
    · exact Or.inl q3
    · omega
theorem c_80p {n : Nat} {X : aX} {h : aH} {x1 : Int32} {a1 : Int} (S : wS h) (z1 : x1.toInt = a1) : Pt n X zM80 0 [some (.ref 1), some (.int x1), none, none] [] h (qI (fun y h' => wS h' ∧ RPer4 (vw h) a1 y (vw h'))) := by
  refine pt_q (pt_and (c_80 S z1) (c_80q S z1)) ?_
  rintro v h' ⟨⟨x, rfl, r1, r2⟩, ⟨x', -, r3⟩⟩
  exact ⟨x, rfl, r1, r2, r3⟩

theorem e151_0 {n : Nat} {X : aX} {h : aH} {P : Int → aH → Prop} {x1 : Int32} {a1 : Int} (S : wS h) (z1 : x1.toInt = a1) (H : (((1 ≤ a1 ∧ a1 ≤ 999) → ((¬ (150 ≤ (vw h) 1 1) → ∀ (y9 : Int) (h_9 : aH), (wS h_9 ∧ RPer4 (vw h) a1 y9 (vw h_9)) → P y9 h_9) ∧ ((150 ≤ (vw h) 1 1) → P (-3) h))) ∧ (¬ (1 ≤ a1 ∧ a1 ≤ 999) → P (-1) h))) : Pt (n + 1) X zM151 0 [some (.ref 0), some (.int x1)] [] h (qI P) := by
  refine pt_1 (fun n d => r_iloadn gx151_0 rfl) ?_
  refine pt_d (pt_iconst gx151_1 (fun v1 h1 => ?_))
  refine pt_d (pt_sipush gx151_2 (fun v2 h2 => ?_))
  refine pt_d (pt_stat (as := [.int x1, .int v1, .int v2]) (r := []) gx151_5 rfl (show zmt[137]? = some zM137 from rfl) rfl rfl rfl rfl (c_137 S z1 h1 h2) (kqP (fun v3 h3 => ?_)))
  show Pt _ _ _ 8 _ [.int v3] _ _
  refine pt_d (pt_ifB_ne gx151_8 h3 (fun e4 => ?_) (fun e4 => ?_))
  · have H := H.1 e4
    refine pt_d (pt_1 (fun n d => r_aloadn gx151_13 rfl) ?_)
    refine pt_d (pt_getR gx151_14 S tr_0_0 ?_)
    refine pt_d (pt_virt (as := []) (r := []) gx151_17 rfl (show zmt[73]? = some zM73 from rfl) rfl rfl rfl rfl (c_73 S) (kqP (fun v6 h6 => ?_)))
    show Pt _ _ _ 20 _ [.int v6] _ _
    refine pt_d (pt_ifB_eq gx151_20 h6 (fun e7 => ?_) (fun e7 => ?_))
    · have H := H.1 e7
      refine pt_d (pt_1 (fun n d => r_aloadn gx151_28 rfl) ?_)
      refine pt_d (pt_getR gx151_29 S tr_0_0 ?_)
      refine pt_d (pt_1 (fun n d => r_iloadn gx151_32 rfl) ?_)
      refine pt_d (pt_virt (as := [.int x1]) (r := []) gx151_33 rfl (show zmt[80]? = some zM80 from rfl) rfl rfl rfl rfl (c_80p S z1) (kqI (fun v9 y9 h_9 h9 P9 => ?_)))
      have S9 := P9.1
      have H := H y9 h_9 P9
      show Pt _ _ _ 36 _ [.int v9] _ _
      exact pt_d (pt_iret gx151_36 ⟨_, rfl, by rw [h9]; exact H⟩)
    · have H := H.2 e7
      refine pt_d (pt_bipush gx151_23 (fun v10 h10 => ?_))
      refine pt_d (pt_1 (fun n d => r_goto gx151_25) ?_)
      exact pt_d (pt_iret gx151_36 ⟨_, rfl, by rw [h10]; exact H⟩)
  · have H := H.2 e4
    refine pt_d (pt_iconst gx151_11 (fun v11 h11 => ?_))
    exact pt_d (pt_iret gx151_12 ⟨_, rfl, by rw [h11]; exact H⟩)
def R151p (V : vS) (v r : Int) (V' : vS) : Prop := R151 V v r V' ∧ (V' = V ∨ V' 1 4 = w32 (V 1 4 + 1))
theorem c_151p {n : Nat} {X : aX} {h : aH} {x1 : Int32} {a1 : Int} (S : wS h) (z1 : x1.toInt = a1) : Pt n X zM151 0 [some (.ref 0), some (.int x1)] [] h (qI (fun y h' => R151p (vw h) a1 y (vw h'))) := by
  refine pt_d (e151_0 S z1 ⟨fun e => ⟨fun e3 y g p => ⟨Or.inr ⟨e, p.2.1⟩, p.2.2⟩, fun e3 => ⟨Or.inr ⟨e, Or.inl ⟨e3, rfl, rfl⟩⟩, Or.inl rfl⟩⟩, fun e => ⟨Or.inl ⟨e, rfl, rfl⟩, Or.inl rfl⟩⟩)
-- the counts of bodies by kind
def JCnt (V : vS) : Prop := V 1 2 = nQ (fun j => kFarm (V 2 j)) (V 1 1).toNat ∧ V 1 3 = nQ (fun j => 4 ≤ V 2 j ∧ V 2 j ≤ 5) (V 1 1).toNat ∧ V 1 4 = nQ (fun j => V 2 j = 6) (V 1 1).toNat
def LCnt : List (Nat × Option Nat) := [(1, some 1), (1, some 2), (1, some 3), (1, some 4), (2, none)]
theorem JCnt_ag {V W : vS} (J : JCnt V) (A : ag LCnt V W) : JCnt W := by
  obtain ⟨a1, a2, a3, a4, a5, -⟩ := A
  have a1 : W 1 1 = V 1 1 := a1
  have a2 : W 1 2 = V 1 2 := a2
  have a3 : W 1 3 = V 1 3 := a3
  have a4 : W 1 4 = V 1 4 := a4
  unfold JCnt at J ⊢
  simp only [a1, a2, a3, a4, a5]
  exact J
theorem JCnt_dG {W : List (Nat × Nat)} {σ σ1 : List Nat} {h h1 : aH} (J : JCnt (vw h)) (I : dI σ h) (G : dG W σ h σ1 h1) (k : frL W LCnt = true) : JCnt (vw h1) := JCnt_ag J (ag_dG I.1 G _ k)
theorem nQ_a {P P' : Int → Prop} {n : Int} (n0 : 0 ≤ n) (e : ∀ j, 0 ≤ j → j < n → (P' j ↔ P j)) : nQ P' (n + 1).toNat = nQ P n.toNat + bI (P' n) := by
  obtain ⟨m, rfl⟩ : ∃ m : Nat, n = (m : Int) := ⟨n.toNat, by omega⟩
  have s : ((m : Int) + 1).toNat = m + 1 := by omega
  have c : nQ P' m = nQ P m := nQ_c m (fun j a b => e j a b)
  rw [s, Int.toNat_natCast]
  by_cases z : P' (m : Nat)
  · rw [nQ_t z, bI_t z, c]
  · rw [nQ_f z, bI_f z, c]
theorem bI_b (p : Prop) : 0 ≤ bI p ∧ bI p ≤ 1 := by
  rcases bI_r p with e | e <;> rw [e] <;> decide
section CNT
variable {V V1 V2 : vS}
theorem jcnt_v {W : vS} {k : Int} (J : JCnt V) (n : 0 ≤ V 1 1 ∧ V 1 1 < 150) (e1 : W 1 1 = V 1 1 + 1) (e2 : ∀ j, W 2 j = if j = V 1 1 then k else V 2 j) (f2 : W 1 2 = w32 (V 1 2 + bI (kFarm k))) (f3 : W 1 3 = w32 (V 1 3 + bI (4 ≤ k ∧ k ≤ 5))) (f4 : W 1 4 = w32 (V 1 4 + bI (k = 6))) : JCnt W := by
  obtain ⟨j2, j3, j4⟩ := J
  have o : ∀ j, 0 ≤ j → j < V 1 1 → W 2 j = V 2 j := fun j _ b => by rw [e2, if_neg (by omega)]
  have s : W 2 (V 1 1) = k := by rw [e2, if_pos rfl]
  have h2 := nQ_a (P := fun j => kFarm (V 2 j)) (P' := fun j => kFarm (W 2 j)) n.1 (fun j a b => by rw [o j a b])
  have h3 := nQ_a (P := fun j => 4 ≤ V 2 j ∧ V 2 j ≤ 5) (P' := fun j => 4 ≤ W 2 j ∧ W 2 j ≤ 5) n.1 (fun j a b => by rw [o j a b])
  have h4 := nQ_a (P := fun j => V 2 j = 6) (P' := fun j => W 2 j = 6) n.1 (fun j a b => by rw [o j a b])
  simp only [s] at h2 h3 h4
  rw [← j2] at h2
  rw [← j3] at h3
  rw [← j4] at h4
  have b2 := nQ_b (fun j => kFarm (W 2 j)) (V 1 1 + 1).toNat
  have b3 := nQ_b (fun j => 4 ≤ W 2 j ∧ W 2 j ≤ 5) (V 1 1 + 1).toNat
  have b4 := nQ_b (fun j => W 2 j = 6) (V 1 1 + 1).toNat
  unfold JCnt
  rw [e1, f2, f3, f4]
  refine ⟨?_, ?_, ?_⟩
  · rw [h2]
    rw [h2] at b2
    exact w32_id (by omega) (by omega)
  · rw [h3]
    rw [h3] at b3
    exact w32_id (by omega) (by omega)
  · rw [h4]
    rw [h4] at b4
    exact w32_id (by omega) (by omega)
theorem cA_12 {k m t : Int} : cAddV V k m t 1 2 = w32 (V 1 2 + bI (kFarm k)) := by
  unfold cAddV
  rw [up_j (by decide), up_j (by decide), up_s]
theorem cA_13 {k m t : Int} : cAddV V k m t 1 3 = w32 (V 1 3 + bI (4 ≤ k ∧ k ≤ 5)) := by
  unfold cAddV
  rw [up_j (by decide), up_s]
theorem cA_14 {k m t : Int} : cAddV V k m t 1 4 = V 1 4 := by
  unfold cAddV
  rw [up_j (by decide), up_j (by decide), up_j (by decide), up_c (by decide), up_c (by decide), up_c (by decide), up_c (by decide), up_c (by decide)]
theorem jcnt_c {W : vS} {k m t : Int} (J : JCnt V) (n : 0 ≤ V 1 1 ∧ V 1 1 < 150) (e2 : ∀ j, W 2 j = cAddV V k m t 2 j) (e : ∀ j, j ≠ 4 → W 1 j = cAddV V k m t 1 j) (f4 : W 1 4 = w32 (V 1 4 + bI (k = 6))) : JCnt W :=
  jcnt_v (k := k) J n (by rw [e 1 (by decide), cA_n, w32_id (by omega) (by omega)]) (fun j => by rw [e2, cA_2]) (by rw [e 2 (by decide), cA_12]) (by rw [e 3 (by decide), cA_13]) f4
theorem cnt_4 (J : JCnt V) (n : 0 ≤ V 1 1 ∧ V 1 1 < 150) {k m t : Int} (hk : k ≠ 6) : cAddV V k m t 1 4 = w32 (V 1 4 + bI (k = 6)) := by
  have b := nQ_b (fun j => V 2 j = 6) (V 1 1).toNat
  rw [← J.2.2] at b
  rw [cA_14, bI_f hk, w32_id (by omega) (by omega)]
  omega
theorem jcnt_m {W : vS} (J : JCnt V) (m : W = V ∨ mAd V W) : JCnt W :=
  JCnt_ag J ⟨mx_l m 1 1 (Or.inl (by decide)), mx_l m 1 2 (Or.inl (by decide)), mx_l m 1 3 (Or.inl (by decide)), mx_l m 1 4 (Or.inl (by decide)), fun j => mx_l m 2 j (Or.inl (by decide)), trivial⟩
theorem jcnt_a {k m t r : Int} (J : JCnt V) (hk : k ≠ 6) (c : RAdd V k m t r V1) : JCnt V1 := by
  rcases c with ⟨-, -, e⟩ | ⟨a, b, -, e⟩
  · rw [e]
    exact J
  · rw [e]
    exact jcnt_c (k := k) (m := m) (t := t) J ⟨a, b⟩ (fun _ => rfl) (fun _ _ => rfl) (cnt_4 J ⟨a, b⟩ hk)
theorem jcnt_2 {k l r : Int} (J : JCnt V) (c : R146 V k l r V1) : JCnt V1 := by
  rcases c with ⟨-, -, e⟩ | ⟨h, c⟩
  · rw [e]
    exact J
  · refine jcnt_a J (fun z => ?_) c
    have := h.1
    unfold kFarm at this
    omega
theorem jcnt_6 {f m r : Int} (J : JCnt V) (c : R150 V f m r V1) : JCnt V1 := by
  rcases c with ⟨-, -, e⟩ | ⟨-, ⟨-, -, e⟩ | ⟨-, -, -, e⟩ | ⟨-, a, b, -, e⟩⟩
  · rw [e]; exact J
  · rw [e]; exact J
  · rw [e]; exact J
  · have hk : (if m = 1 then (5 : Int) else 4) ≠ 6 := by split <;> decide
    generalize (if m = 1 then (5 : Int) else 4) = k at e hk
    have x : ∀ (c : Nat) j, c ≠ 8 → c ≠ 13 → V1 c j = cAddV V k (cArea V) f c j := fun c j h8 h13 => by rw [e, up_c h13, outl_c h8]
    exact jcnt_c (k := k) (m := cArea V) (t := f) J ⟨a, b⟩ (fun j => x 2 j (by decide) (by decide)) (fun j _ => x 1 j (by decide) (by decide)) ((x 1 4 (by decide) (by decide)).trans (cnt_4 J ⟨a, b⟩ hk))
theorem jcnt_7 {v r : Int} (J : JCnt V) (c : R151p V v r V1) : JCnt V1 := by
  obtain ⟨c, d⟩ := c
  rcases d with e | d
  · rw [e]; exact J
  · rcases c with ⟨-, -, e⟩ | ⟨-, ⟨-, -, e⟩ | ⟨a, b, -, e⟩⟩
    · rw [e]; exact J
    · rw [e]; exact J
    · exact jcnt_c (k := 6) (m := v) (t := -1) J ⟨a, b⟩ (fun j => e 2 j (by decide) (fun z => absurd z.1 (by decide))) (fun j n => e 1 j (by decide) (fun z => n z.2)) (by rw [d, bI_t rfl])
theorem jx_7p {v r1 r2 : Int} (J : JBody V) (hd : V 1 0 = V 72 1) (c : R151p V v r1 V1) (m : R208 V1 v r2 V2) : JBody V2 ∧ r1 = r2 := jx_7 J hd c.1 m
end CNT
theorem zJCnt0 : JCnt (vw zH0) := by
  have e1 : vw zH0 1 1 = 0 := vzf (i := 1) (x := 0) zh1 rfl
  have e2 : vw zH0 1 2 = 0 := vzf (i := 2) (x := 0) zh1 rfl
  have e3 : vw zH0 1 3 = 0 := vzf (i := 3) (x := 0) zh1 rfl
  have e4 : vw zH0 1 4 = 0 := vzf (i := 4) (x := 0) zh1 rfl
  unfold JCnt
  rw [e1, e2, e3, e4]
  exact ⟨rfl, rfl, rfl⟩

theorem d326_0 {n : Nat} {X : aX} {h : aH} {P : Int → aH → Prop} {x1 : Int32} {a1 : Int} (S : wS h) (z1 : x1.toInt = a1) (H : (∀ (w2 : Int32) (w3 : Int32), w2.toInt = 0 → w3.toInt = 0 → Pt n X zM326 4 [some (.ref 72), some (.int x1), some (.int w2), some (.int w3)] [] h (qI P))) : Pt (n + 1) X zM326 0 [some (.ref 72), some (.int x1), none, none] [] h (qI P) := by
  refine pt_iconst gx326_0 (fun v1 h1 => ?_)
  refine pt_d (pt_1 (fun n d => r_istoren (L' := [some (.ref 72), some (.int x1), some (.int v1), none]) gx326_1 rfl rfl) ?_)
  refine pt_d (pt_iconst gx326_2 (fun v2 h2 => ?_))
  refine pt_d (pt_1 (fun n d => r_istoren (L' := [some (.ref 72), some (.int x1), some (.int v1), some (.int v2)]) gx326_3 rfl rfl) ?_)
  exact H v1 v2 h1 h2
theorem d326_4 {n : Nat} {X : aX} {h : aH} {P : Int → aH → Prop} {x1 x2 x3 : Int32} {a1 a2 a3 : Int} (S : wS h) (z1 : x1.toInt = a1) (z2 : x2.toInt = a2) (z3 : x3.toInt = a3) (H : ((vw h 72 2 ≤ a3 → P a2 h) ∧ (a3 < vw h 72 2 → (0 ≤ a3 → a3 < 150 → ((¬ (uF (vw h 73 a3) a1) → (∀ (w2 : Int32) (w3 : Int32), w2.toInt = w32 (a2 + 0) → w3.toInt = w32 (a3 + 1) → Pt n X zM326 4 [some (.ref 72), some (.int x1), some (.int w2), some (.int w3)] [] h (qI P))) ∧ ((uF (vw h 73 a3) a1) → (∀ (w2 : Int32) (w3 : Int32), w2.toInt = w32 (a2 + 1) → w3.toInt = w32 (a3 + 1) → Pt n X zM326 4 [some (.ref 72), some (.int x1), some (.int w2), some (.int w3)] [] h (qI P)))))))) : Pt (n + 1) X zM326 4 [some (.ref 72), some (.int x1), some (.int x2), some (.int x3)] [] h (qI P) := by
  refine pt_1 (fun n d => r_iloadn gx326_4 rfl) ?_
  refine pt_d (pt_1 (fun n d => r_aloadn gx326_5 rfl) ?_)
  refine pt_d (pt_getI (B := 2) gx326_6 S (fun v1 h1 => ?_))
  refine pt_d (pt_icmp_ge gx326_9 z3 h1 (fun e2 => ?_) (fun e2 => ?_))
  · have H := H.1 e2
    refine pt_d (pt_1 (fun n d => r_iloadn gx326_39 rfl) ?_)
    exact pt_d (pt_iret gx326_40 ⟨_, rfl, by rw [z2]; exact H⟩)
  · have H := H.2 e2
    refine pt_d (pt_1 (fun n d => r_iloadn gx326_12 rfl) ?_)
    refine pt_d (pt_1 (fun n d => r_aloadn gx326_13 rfl) ?_)
    refine pt_d (pt_getR gx326_14 S tr_72_3 ?_)
    refine pt_d (pt_1 (fun n d => r_iloadn gx326_17 rfl) ?_)
    refine pt_d (pt_iald (N' := 150) gx326_18 S tl_73 z3 (fun v4 p4 q4 h4 => ?_))
    have H := H p4 q4
    refine pt_d (pt_1 (fun n d => r_iloadn gx326_19 rfl) ?_)
    refine pt_d (pt_stat (as := [.int v4, .int x1]) (r := [.int x2]) gx326_20 rfl (show zmt[201]? = some zM201 from rfl) rfl rfl rfl rfl (c_201 S h4 z1) (kqP (fun v5 h5 => ?_)))
    show Pt _ _ _ 23 _ [.int v5, .int x2] _ _
    refine pt_d (pt_ifB_eq gx326_23 h5 (fun e6 => ?_) (fun e6 => ?_))
    · have H := H.1 e6
      refine pt_d (pt_iconst gx326_30 (fun v7 h7 => ?_))
      refine pt_d (pt_iadd gx326_31 z2 h7 (fun v8 h8 => ?_))
      refine pt_d (pt_1 (fun n d => r_istoren (L' := [some (.ref 72), some (.int x1), some (.int v8), some (.int x3)]) gx326_32 rfl rfl) ?_)
      refine pt_d (pt_iinc (c := 1) gx326_33 rfl z3 (fun v9 h9 => ?_))
      show Pt _ _ _ _ [some (.ref 72), some (.int x1), some (.int v8), some (.int v9)] [] _ _
      refine pt_d (pt_1 (fun n d => r_goto gx326_36) ?_)
      exact H v8 v9 h8 h9
    · have H := H.2 e6
      refine pt_d (pt_iconst gx326_26 (fun v10 h10 => ?_))
      refine pt_d (pt_1 (fun n d => r_goto gx326_27) ?_)
      refine pt_d (pt_iadd gx326_31 z2 h10 (fun v11 h11 => ?_))
      refine pt_d (pt_1 (fun n d => r_istoren (L' := [some (.ref 72), some (.int x1), some (.int v11), some (.int x3)]) gx326_32 rfl rfl) ?_)
      refine pt_d (pt_iinc (c := 1) gx326_33 rfl z3 (fun v12 h12 => ?_))
      show Pt _ _ _ _ [some (.ref 72), some (.int x1), some (.int v11), some (.int v12)] [] _ _
      refine pt_d (pt_1 (fun n d => r_goto gx326_36) ?_)
      exact H v11 v12 h11 h12
theorem l_326 {X : aX} {h : aH} {a : Int} (S : wS h) (hn : 0 ≤ vw h 72 2 ∧ vw h 72 2 ≤ 150) : ∀ (n : Nat) (x1 x2 x3 : Int32) (k : Nat), x1.toInt = a → x2.toInt = nQ (fun j => uF (vw h 73 j) a) k → x3.toInt = (k : Int) → (k : Int) ≤ vw h 72 2 → Pt n X zM326 4 [some (.ref 72), some (.int x1), some (.int x2), some (.int x3)] [] h (qI (fun y h' => h' = h ∧ y = nQ (fun j => uF (vw h 73 j) a) (vw h 72 2).toNat)) := by
  intro n
  induction n with
  | zero => exact fun _ _ _ _ _ _ _ _ => pt_z
  | succ n ih =>
    intro x1 x2 x3 k h1 h2 h3 hk
    have b := nQ_b (fun j => uF (vw h 73 j) a) k
    refine d326_4 S h1 rfl h3 ⟨fun e => ⟨rfl, ?_⟩, fun e p q => ⟨fun z w2 w3 g2 g3 => ?_, fun z w2 w3 g2 g3 => ?_⟩⟩
    · rw [h2, show (vw h 72 2).toNat = k by omega]
    · replace g3 := w_1 g3 (by omega) (by omega)
      replace g2 := w_1 g2 (by omega) (by omega)
      refine ih x1 w2 w3 (k + 1) h1 ?_ (by omega) (by omega)
      rw [nQ_f z, g2, h2]
    · replace g3 := w_1 g3 (by omega) (by omega)
      replace g2 := w_1 g2 (by omega) (by omega)
      refine ih x1 w2 w3 (k + 1) h1 ?_ (by omega) (by omega)
      rw [nQ_t z, g2, h2]
theorem c_326 {n : Nat} {X : aX} {h : aH} {x1 : Int32} {a1 : Int} (S : wS h) (z1 : x1.toInt = a1) (hn : 0 ≤ vw h 72 2 ∧ vw h 72 2 ≤ 150) : Pt n X zM326 0 [some (.ref 72), some (.int x1), none, none] [] h (qI (fun y h' => h' = h ∧ y = nQ (fun j => uF (vw h 73 j) a1) (vw h 72 2).toNat)) :=
  pt_d (d326_0 S z1 (fun w2 w3 g2 g3 => l_326 S hn n x1 w2 w3 0 z1 g2 g3 hn.1))
def c194 (V : vS) (a : Int) : Int := if a = 0 then V 1 1 else if a = 1 then V 1 2 else if a = 2 then V 1 3 else if a = 3 then V 1 4 else if a = 4 then V 16 1 else if a = 5 then V 1 6 else if a = 6 then V 16 3 else if a = 7 then V 1 0 else if a = 8 then V 33 7 else if a = 9 then V 33 1 else if a = 10 then V 13 2 else if a = 11 then V 66 1 else -1
noncomputable def m327 (V : vS) (a : Int) : Int := if a = 0 then V 72 2 else if a = 1 then nQ (fun j => uF (V 73 j) 1) (V 72 2).toNat else if a = 2 then nQ (fun j => uF (V 73 j) 4) (V 72 2).toNat else if a = 3 then nQ (fun j => uF (V 73 j) 6) (V 72 2).toNat else if a = 4 then V 72 19 else if a = 5 then V 72 14 else if a = 6 then V 72 32 else if a = 7 then V 72 1 else if a = 8 then V 72 55 else if a = 9 then V 72 54 else if a = 10 then V 72 11 else if a = 11 then V 72 95 else -1

theorem d194_0 {n : Nat} {X : aX} {h : aH} {P : Int → aH → Prop} {x1 : Int32} {a1 : Int} (S : wS h) (z1 : x1.toInt = a1) (H : ((a1 = 0 → P (vw h 1 1) h) ∧ (a1 ≠ 0 → ((a1 = 1 → P (vw h 1 2) h) ∧ (a1 ≠ 1 → ((a1 = 2 → P (vw h 1 3) h) ∧ (a1 ≠ 2 → ((a1 = 3 → P (vw h 1 4) h) ∧ (a1 ≠ 3 → ((a1 = 4 → P (vw h 16 1) h) ∧ (a1 ≠ 4 → ((a1 = 5 → P (vw h 1 6) h) ∧ (a1 ≠ 5 → ((a1 = 6 → P (vw h 16 3) h) ∧ (a1 ≠ 6 → ((a1 = 7 → P (vw h 1 0) h) ∧ (a1 ≠ 7 → ((a1 = 8 → P (vw h 33 7) h) ∧ (a1 ≠ 8 → ((a1 = 9 → P (vw h 33 1) h) ∧ (a1 ≠ 9 → ((a1 = 10 → P (vw h 13 2) h) ∧ (a1 ≠ 10 → ((a1 = 11 → P (vw h 66 1) h) ∧ (a1 ≠ 11 → P (-1) h))))))))))))))))))))))))) : Pt (n + 1) X zM194 0 [some (.ref 0), some (.int x1)] [] h (qI P) := by
  refine pt_1 (fun n d => r_iloadn gx194_0 rfl) ?_
  refine pt_d (pt_tsw gx194_1 ?_)
  refine pa_c (lo := 0) (lo' := 1) (p := 64) z1 (fun e1 => ?_) (fun e1 => ?_)
  · have H := H.1 e1
    refine pt_d (pt_1 (fun n d => r_aloadn gx194_64 rfl) ?_)
    refine pt_d (pt_getR gx194_65 S tr_0_0 ?_)
    refine pt_d (pt_getI (B := 1) gx194_68 S (fun v3 h3 => ?_))
    exact pt_d (pt_iret gx194_71 ⟨_, rfl, by rw [h3]; exact H⟩)
  have H := H.2 e1
  refine pa_c (lo := 1) (lo' := 2) (p := 72) z1 (fun e4 => ?_) (fun e4 => ?_)
  · have H := H.1 e4
    refine pt_d (pt_1 (fun n d => r_aloadn gx194_72 rfl) ?_)
    refine pt_d (pt_getR gx194_73 S tr_0_0 ?_)
    refine pt_d (pt_getI (B := 2) gx194_76 S (fun v6 h6 => ?_))
    exact pt_d (pt_iret gx194_79 ⟨_, rfl, by rw [h6]; exact H⟩)
  have H := H.2 e4
  refine pa_c (lo := 2) (lo' := 3) (p := 80) z1 (fun e7 => ?_) (fun e7 => ?_)
  · have H := H.1 e7
    refine pt_d (pt_1 (fun n d => r_aloadn gx194_80 rfl) ?_)
    refine pt_d (pt_getR gx194_81 S tr_0_0 ?_)
    refine pt_d (pt_getI (B := 3) gx194_84 S (fun v9 h9 => ?_))
    exact pt_d (pt_iret gx194_87 ⟨_, rfl, by rw [h9]; exact H⟩)
  have H := H.2 e7
  refine pa_c (lo := 3) (lo' := 4) (p := 88) z1 (fun e10 => ?_) (fun e10 => ?_)
  · have H := H.1 e10
    refine pt_d (pt_1 (fun n d => r_aloadn gx194_88 rfl) ?_)
    refine pt_d (pt_getR gx194_89 S tr_0_0 ?_)
    refine pt_d (pt_getI (B := 4) gx194_92 S (fun v12 h12 => ?_))
    exact pt_d (pt_iret gx194_95 ⟨_, rfl, by rw [h12]; exact H⟩)
  have H := H.2 e10
  refine pa_c (lo := 4) (lo' := 5) (p := 96) z1 (fun e13 => ?_) (fun e13 => ?_)
  · have H := H.1 e13
    refine pt_d (pt_1 (fun n d => r_aloadn gx194_96 rfl) ?_)
    refine pt_d (pt_getR gx194_97 S tr_0_2 ?_)
    refine pt_d (pt_getI (B := 1) gx194_100 S (fun v15 h15 => ?_))
    exact pt_d (pt_iret gx194_103 ⟨_, rfl, by rw [h15]; exact H⟩)
  have H := H.2 e13
  refine pa_c (lo := 5) (lo' := 6) (p := 104) z1 (fun e16 => ?_) (fun e16 => ?_)
  · have H := H.1 e16
    refine pt_d (pt_1 (fun n d => r_aloadn gx194_104 rfl) ?_)
    refine pt_d (pt_getR gx194_105 S tr_0_0 ?_)
    refine pt_d (pt_getI (B := 6) gx194_108 S (fun v18 h18 => ?_))
    exact pt_d (pt_iret gx194_111 ⟨_, rfl, by rw [h18]; exact H⟩)
  have H := H.2 e16
  refine pa_c (lo := 6) (lo' := 7) (p := 112) z1 (fun e19 => ?_) (fun e19 => ?_)
  · have H := H.1 e19
    refine pt_d (pt_1 (fun n d => r_aloadn gx194_112 rfl) ?_)
    refine pt_d (pt_getR gx194_113 S tr_0_2 ?_)
    refine pt_d (pt_getI (B := 3) gx194_116 S (fun v21 h21 => ?_))
    exact pt_d (pt_iret gx194_119 ⟨_, rfl, by rw [h21]; exact H⟩)
  have H := H.2 e19
  refine pa_c (lo := 7) (lo' := 8) (p := 120) z1 (fun e22 => ?_) (fun e22 => ?_)
  · have H := H.1 e22
    refine pt_d (pt_1 (fun n d => r_aloadn gx194_120 rfl) ?_)
    refine pt_d (pt_getR gx194_121 S tr_0_0 ?_)
    refine pt_d (pt_getI (B := 0) gx194_124 S (fun v24 h24 => ?_))
    exact pt_d (pt_iret gx194_127 ⟨_, rfl, by rw [h24]; exact H⟩)
  have H := H.2 e22
  refine pa_c (lo := 8) (lo' := 9) (p := 128) z1 (fun e25 => ?_) (fun e25 => ?_)
  · have H := H.1 e25
    refine pt_d (pt_1 (fun n d => r_aloadn gx194_128 rfl) ?_)
    refine pt_d (pt_getR gx194_129 S tr_0_3 ?_)
    refine pt_d (pt_getI (B := 7) gx194_132 S (fun v27 h27 => ?_))
    exact pt_d (pt_iret gx194_135 ⟨_, rfl, by rw [h27]; exact H⟩)
  have H := H.2 e25
  refine pa_c (lo := 9) (lo' := 10) (p := 136) z1 (fun e28 => ?_) (fun e28 => ?_)
  · have H := H.1 e28
    refine pt_d (pt_1 (fun n d => r_aloadn gx194_136 rfl) ?_)
    refine pt_d (pt_getR gx194_137 S tr_0_3 ?_)
    refine pt_d (pt_getI (B := 1) gx194_140 S (fun v30 h30 => ?_))
    exact pt_d (pt_iret gx194_143 ⟨_, rfl, by rw [h30]; exact H⟩)
  have H := H.2 e28
  refine pa_c (lo := 10) (lo' := 11) (p := 144) z1 (fun e31 => ?_) (fun e31 => ?_)
  · have H := H.1 e31
    refine pt_d (pt_1 (fun n d => r_aloadn gx194_144 rfl) ?_)
    refine pt_d (pt_getR gx194_145 S tr_0_1 ?_)
    refine pt_d (pt_getI (B := 2) gx194_148 S (fun v33 h33 => ?_))
    exact pt_d (pt_iret gx194_151 ⟨_, rfl, by rw [h33]; exact H⟩)
  have H := H.2 e31
  refine pa_c (lo := 11) (lo' := 12) (p := 152) z1 (fun e34 => ?_) (fun e34 => ?_)
  · have H := H.1 e34
    refine pt_d (pt_1 (fun n d => r_aloadn gx194_152 rfl) ?_)
    refine pt_d (pt_getR gx194_153 S tr_0_8 ?_)
    refine pt_d (pt_getI (B := 1) gx194_156 S (fun v36 h36 => ?_))
    exact pt_d (pt_iret gx194_159 ⟨_, rfl, by rw [h36]; exact H⟩)
  have H := H.2 e34
  refine pa_0 (p := 160) ?_
  refine pt_d (pt_iconst gx194_160 (fun v37 h37 => ?_))
  exact pt_d (pt_iret gx194_161 ⟨_, rfl, by rw [h37]; exact H⟩)
theorem d327_0 {n : Nat} {X : aX} {h : aH} {P : Int → aH → Prop} {x1 : Int32} {a1 : Int} (S : wS h) (z1 : x1.toInt = a1) (H : ((a1 = 0 → P (vw h 72 2) h) ∧ (a1 ≠ 0 → ((a1 = 1 → ((0 ≤ vw h 72 2 ∧ vw h 72 2 ≤ 150) ∧ P (nQ (fun j => uF ((vw h) 73 j) 1) ((vw h) 72 2).toNat) h)) ∧ (a1 ≠ 1 → ((a1 = 2 → ((0 ≤ vw h 72 2 ∧ vw h 72 2 ≤ 150) ∧ P (nQ (fun j => uF ((vw h) 73 j) 4) ((vw h) 72 2).toNat) h)) ∧ (a1 ≠ 2 → ((a1 = 3 → ((0 ≤ vw h 72 2 ∧ vw h 72 2 ≤ 150) ∧ P (nQ (fun j => uF ((vw h) 73 j) 6) ((vw h) 72 2).toNat) h)) ∧ (a1 ≠ 3 → ((a1 = 4 → P (vw h 72 19) h) ∧ (a1 ≠ 4 → ((a1 = 5 → P (vw h 72 14) h) ∧ (a1 ≠ 5 → ((a1 = 6 → P (vw h 72 32) h) ∧ (a1 ≠ 6 → ((a1 = 7 → P (vw h 72 1) h) ∧ (a1 ≠ 7 → ((a1 = 8 → P (vw h 72 55) h) ∧ (a1 ≠ 8 → ((a1 = 9 → P (vw h 72 54) h) ∧ (a1 ≠ 9 → ((a1 = 10 → P (vw h 72 11) h) ∧ (a1 ≠ 10 → ((a1 = 11 → P (vw h 72 95) h) ∧ (a1 ≠ 11 → P (-1) h))))))))))))))))))))))))) : Pt (n + 1) X zM327 0 [some (.ref 72), some (.int x1)] [] h (qI P) := by
  refine pt_1 (fun n d => r_iloadn gx327_0 rfl) ?_
  refine pt_d (pt_tsw gx327_1 ?_)
  refine pa_c (lo := 0) (lo' := 1) (p := 64) z1 (fun e1 => ?_) (fun e1 => ?_)
  · have H := H.1 e1
    refine pt_d (pt_1 (fun n d => r_aloadn gx327_64 rfl) ?_)
    refine pt_d (pt_getI (B := 2) gx327_65 S (fun v2 h2 => ?_))
    exact pt_d (pt_iret gx327_68 ⟨_, rfl, by rw [h2]; exact H⟩)
  have H := H.2 e1
  refine pa_c (lo := 1) (lo' := 2) (p := 69) z1 (fun e3 => ?_) (fun e3 => ?_)
  · have H := H.1 e3
    refine pt_d (pt_1 (fun n d => r_aloadn gx327_69 rfl) ?_)
    refine pt_d (pt_iconst gx327_70 (fun v4 h4 => ?_))
    obtain ⟨pr5, H⟩ := H
    refine pt_d (pt_virt (as := [.int v4]) (r := []) gx327_71 rfl (show zmt[326]? = some zM326 from rfl) rfl rfl rfl rfl (c_326 S h4 pr5) (kqP (fun v5 h5 => ?_)))
    show Pt _ _ _ 74 _ [.int v5] _ _
    exact pt_d (pt_iret gx327_74 ⟨_, rfl, by rw [h5]; exact H⟩)
  have H := H.2 e3
  refine pa_c (lo := 2) (lo' := 3) (p := 75) z1 (fun e6 => ?_) (fun e6 => ?_)
  · have H := H.1 e6
    refine pt_d (pt_1 (fun n d => r_aloadn gx327_75 rfl) ?_)
    refine pt_d (pt_iconst gx327_76 (fun v7 h7 => ?_))
    obtain ⟨pr8, H⟩ := H
    refine pt_d (pt_virt (as := [.int v7]) (r := []) gx327_77 rfl (show zmt[326]? = some zM326 from rfl) rfl rfl rfl rfl (c_326 S h7 pr8) (kqP (fun v8 h8 => ?_)))
    show Pt _ _ _ 80 _ [.int v8] _ _
    exact pt_d (pt_iret gx327_80 ⟨_, rfl, by rw [h8]; exact H⟩)
  have H := H.2 e6
  refine pa_c (lo := 3) (lo' := 4) (p := 81) z1 (fun e9 => ?_) (fun e9 => ?_)
  · have H := H.1 e9
    refine pt_d (pt_1 (fun n d => r_aloadn gx327_81 rfl) ?_)
    refine pt_d (pt_bipush gx327_82 (fun v10 h10 => ?_))
    obtain ⟨pr11, H⟩ := H
    refine pt_d (pt_virt (as := [.int v10]) (r := []) gx327_84 rfl (show zmt[326]? = some zM326 from rfl) rfl rfl rfl rfl (c_326 S h10 pr11) (kqP (fun v11 h11 => ?_)))
    show Pt _ _ _ 87 _ [.int v11] _ _
    exact pt_d (pt_iret gx327_87 ⟨_, rfl, by rw [h11]; exact H⟩)
  have H := H.2 e9
  refine pa_c (lo := 4) (lo' := 5) (p := 88) z1 (fun e12 => ?_) (fun e12 => ?_)
  · have H := H.1 e12
    refine pt_d (pt_1 (fun n d => r_aloadn gx327_88 rfl) ?_)
    refine pt_d (pt_getI (B := 19) gx327_89 S (fun v13 h13 => ?_))
    exact pt_d (pt_iret gx327_92 ⟨_, rfl, by rw [h13]; exact H⟩)
  have H := H.2 e12
  refine pa_c (lo := 5) (lo' := 6) (p := 93) z1 (fun e14 => ?_) (fun e14 => ?_)
  · have H := H.1 e14
    refine pt_d (pt_1 (fun n d => r_aloadn gx327_93 rfl) ?_)
    refine pt_d (pt_getI (B := 14) gx327_94 S (fun v15 h15 => ?_))
    exact pt_d (pt_iret gx327_97 ⟨_, rfl, by rw [h15]; exact H⟩)
  have H := H.2 e14
  refine pa_c (lo := 6) (lo' := 7) (p := 98) z1 (fun e16 => ?_) (fun e16 => ?_)
  · have H := H.1 e16
    refine pt_d (pt_1 (fun n d => r_aloadn gx327_98 rfl) ?_)
    refine pt_d (pt_getI (B := 32) gx327_99 S (fun v17 h17 => ?_))
    exact pt_d (pt_iret gx327_102 ⟨_, rfl, by rw [h17]; exact H⟩)
  have H := H.2 e16
  refine pa_c (lo := 7) (lo' := 8) (p := 103) z1 (fun e18 => ?_) (fun e18 => ?_)
  · have H := H.1 e18
    refine pt_d (pt_1 (fun n d => r_aloadn gx327_103 rfl) ?_)
    refine pt_d (pt_getI (B := 1) gx327_104 S (fun v19 h19 => ?_))
    exact pt_d (pt_iret gx327_107 ⟨_, rfl, by rw [h19]; exact H⟩)
  have H := H.2 e18
  refine pa_c (lo := 8) (lo' := 9) (p := 108) z1 (fun e20 => ?_) (fun e20 => ?_)
  · have H := H.1 e20
    refine pt_d (pt_1 (fun n d => r_aloadn gx327_108 rfl) ?_)
    refine pt_d (pt_getI (B := 55) gx327_109 S (fun v21 h21 => ?_))
    exact pt_d (pt_iret gx327_112 ⟨_, rfl, by rw [h21]; exact H⟩)
  have H := H.2 e20
  refine pa_c (lo := 9) (lo' := 10) (p := 113) z1 (fun e22 => ?_) (fun e22 => ?_)
  · have H := H.1 e22
    refine pt_d (pt_1 (fun n d => r_aloadn gx327_113 rfl) ?_)
    refine pt_d (pt_getI (B := 54) gx327_114 S (fun v23 h23 => ?_))
    exact pt_d (pt_iret gx327_117 ⟨_, rfl, by rw [h23]; exact H⟩)
  have H := H.2 e22
  refine pa_c (lo := 10) (lo' := 11) (p := 118) z1 (fun e24 => ?_) (fun e24 => ?_)
  · have H := H.1 e24
    refine pt_d (pt_1 (fun n d => r_aloadn gx327_118 rfl) ?_)
    refine pt_d (pt_getI (B := 11) gx327_119 S (fun v25 h25 => ?_))
    exact pt_d (pt_iret gx327_122 ⟨_, rfl, by rw [h25]; exact H⟩)
  have H := H.2 e24
  refine pa_c (lo := 11) (lo' := 12) (p := 123) z1 (fun e26 => ?_) (fun e26 => ?_)
  · have H := H.1 e26
    refine pt_d (pt_1 (fun n d => r_aloadn gx327_123 rfl) ?_)
    refine pt_d (pt_getI (B := 95) gx327_124 S (fun v27 h27 => ?_))
    exact pt_d (pt_iret gx327_127 ⟨_, rfl, by rw [h27]; exact H⟩)
  have H := H.2 e26
  refine pa_0 (p := 128) ?_
  refine pt_d (pt_iconst gx327_128 (fun v28 h28 => ?_))
  exact pt_d (pt_iret gx327_129 ⟨_, rfl, by rw [h28]; exact H⟩)
theorem c_194 {n : Nat} {X : aX} {h : aH} {x1 : Int32} {a1 : Int} (S : wS h) (z1 : x1.toInt = a1) : Pt n X zM194 0 [some (.ref 0), some (.int x1)] [] h (qI (fun y h' => h' = h ∧ y = c194 (vw h) a1)) := by
  refine pt_d (d194_0 S z1 ?_)
  repeat' (first | (refine And.intro ?_ ?_) | intro _)
  all_goals first
    | rfl
    | omega
    | (unfold c194; repeat (first | rw [if_pos (by assumption)] | rw [if_neg (by assumption)]))
theorem c_327 {n : Nat} {X : aX} {h : aH} {x1 : Int32} {a1 : Int} (S : wS h) (z1 : x1.toInt = a1) (hn : 0 ≤ vw h 72 2 ∧ vw h 72 2 ≤ 150) : Pt n X zM327 0 [some (.ref 72), some (.int x1)] [] h (qI (fun y h' => h' = h ∧ y = m327 (vw h) a1)) := by
  refine pt_d (d327_0 S z1 ?_)
  repeat' (first | (refine And.intro ?_ ?_) | intro _)
  all_goals first
    | rfl
    | omega
    | (unfold m327; repeat (first | rw [if_pos (by assumption)] | rw [if_neg (by assumption)]))
theorem jx_50 {V : vS} {a r1 r2 : Int} (B : JBody V) (N : JCnt V) (C : JClm V) (H : JHand V) (K : JCtl V) (hd : V 1 0 = V 72 1) (T : JTxt V) (R : JRing V) (A : V 66 1 = V 72 95) (c : r1 = c194 V a) (m : r2 = m327 V a) : r1 = r2 := by
  obtain ⟨n2, n3, n4⟩ := N
  have k2 := B.2.1
  have e : ∀ (P P' : Int → Prop), (∀ j, P j ↔ P' j) → nQ P (V 1 1).toNat = nQ P' (V 72 2).toNat := fun P P' h => by
    rw [B.1]
    exact nQ_c _ (fun j _ _ => h j)
  have f2 := e (fun j => kFarm (V 2 j)) (fun j => uF (V 73 j) 1) (fun j => by rw [k2]; unfold kFarm uF; omega)
  have f3 := e (fun j => 4 ≤ V 2 j ∧ V 2 j ≤ 5) (fun j => uF (V 73 j) 4) (fun j => by rw [k2]; unfold uF; omega)
  have f4 := e (fun j => V 2 j = 6) (fun j => uF (V 73 j) 6) (fun j => by rw [k2]; unfold uF; omega)
  rw [c, m]
  unfold c194 m327
  rw [B.1, n2, f2, n3, f3, n4, f4, C.1, H.1, K.1, hd, T.2.2.1.1, T.1.1, R.1, A]


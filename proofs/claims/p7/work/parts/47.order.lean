-- ===== all contracts, one behind another =====
def hG (X : aX) (k : Nat) : Prop := ∀ j, j < k → ∀ C, cCT[j]? = some C → dGood X C
def cCMc : Bool := (List.range cCM.length).all (fun a => match cCM[a]? with
  | some js => js.all (fun j => match cCT[j]? with
    | some C => Nat.beq C.1 a
    | none => true)
  | none => true)
theorem cCMc_ok : cCMc = true := by decide +kernel
theorem cCM_ok : ∀ (a : Nat) (js : List Nat), cCM[a]? = some js → ∀ j, j ∈ js → ∀ C, cCT[j]? = some C → C.1 = a := by
  intro a js h j hj C hC
  have ha : a < cCM.length := (List.getElem?_eq_some_iff.mp h).1
  have h1 := List.all_eq_true.mp cCMc_ok a (List.mem_range.mpr ha)
  simp only [h] at h1
  have h2 := List.all_eq_true.mp h1 j hj
  simp only [hC] at h2
  exact Nat.eq_of_beq_eq_true h2
theorem gstep {X : aX} {k : Nat} (h : hG X k) (hk : ∀ C, cCT[k]? = some C → dGood X C) : hG X (k + 1) := by
  intro j hj C hC
  rcases Nat.lt_succ_iff_lt_or_eq.mp hj with q | rfl
  · exact h j q C hC
  · exact hk C hC
theorem gman {X : aX} {k : Nat} {C0 : cC} (h : hG X k) (e : cCT[k]? = some C0) (m : dGood X C0) : hG X (k + 1) := gstep h fun C hC => by
  cases e.symm.trans hC
  exact m
theorem gchk {X : aX} {k : Nat} (hX : X 0 = some (8, zab)) (h : hG X k) (c : cchk cCT cCM 3000 k = true) : hG X (k + 1) := gstep h (cchk_s hX cCM_ok h c)
theorem gd_20 {X : aX} (hX : X 0 = some (8, zab)) (g0 : hG X 0) : hG X 20 := by
  have g1 : hG X 1 := gchk hX g0 ct_0
  have g2 : hG X 2 := gchk hX g1 ct_1
  have g3 : hG X 3 := gchk hX g2 ct_2
  have g4 : hG X 4 := gchk hX g3 ct_3
  have g5 : hG X 5 := gchk hX g4 ct_4
  have g6 : hG X 6 := gchk hX g5 ct_5
  have g7 : hG X 7 := gchk hX g6 ct_6
  have g8 : hG X 8 := gchk hX g7 ct_7
  have g9 : hG X 9 := gchk hX g8 ct_8
  have g10 : hG X 10 := gchk hX g9 ct_9
  have g11 : hG X 11 := gchk hX g10 ct_10
  have g12 : hG X 12 := gchk hX g11 ct_11
  have g13 : hG X 13 := gchk hX g12 ct_12
  have g14 : hG X 14 := gchk hX g13 ct_13
  have g15 : hG X 15 := gchk hX g14 ct_14
  have g16 : hG X 16 := gchk hX g15 ct_15
  have g17 : hG X 17 := gchk hX g16 ct_16
  have g18 : hG X 18 := gchk hX g17 ct_17
  have g19 : hG X 19 := gchk hX g18 ct_18
  have g20 : hG X 20 := gchk hX g19 ct_19
  exact g20
theorem gd_40 {X : aX} (hX : X 0 = some (8, zab)) (g20 : hG X 20) : hG X 40 := by
  have g21 : hG X 21 := gchk hX g20 ct_20
  have g22 : hG X 22 := gchk hX g21 ct_21
  have g23 : hG X 23 := gchk hX g22 ct_22
  have g24 : hG X 24 := gchk hX g23 ct_23
  have g25 : hG X 25 := gchk hX g24 ct_24
  have g26 : hG X 26 := gchk hX g25 ct_25
  have g27 : hG X 27 := gchk hX g26 ct_26
  have g28 : hG X 28 := gchk hX g27 ct_27
  have g29 : hG X 29 := gchk hX g28 ct_28
  have g30 : hG X 30 := gchk hX g29 ct_29
  have g31 : hG X 31 := gchk hX g30 ct_30
  have g32 : hG X 32 := gchk hX g31 ct_31
  have g33 : hG X 33 := gchk hX g32 ct_32
  have g34 : hG X 34 := gchk hX g33 ct_33
  have g35 : hG X 35 := gchk hX g34 ct_34
  have g36 : hG X 36 := gchk hX g35 ct_35
  have g37 : hG X 37 := gchk hX g36 ct_36
  have g38 : hG X 38 := gchk hX g37 ct_37
  have g39 : hG X 39 := gchk hX g38 ct_38
  have g40 : hG X 40 := gchk hX g39 ct_39
  exact g40
theorem gd_60 {X : aX} (hX : X 0 = some (8, zab)) (g40 : hG X 40) : hG X 60 := by
  have g41 : hG X 41 := gchk hX g40 ct_40
  have g42 : hG X 42 := gchk hX g41 ct_41
  have g43 : hG X 43 := gchk hX g42 ct_42
  have g44 : hG X 44 := gchk hX g43 ct_43
  have g45 : hG X 45 := gchk hX g44 ct_44
  have g46 : hG X 46 := gchk hX g45 ct_45
  have g47 : hG X 47 := gchk hX g46 ct_46
  have g48 : hG X 48 := gchk hX g47 ct_47
  have g49 : hG X 49 := gchk hX g48 ct_48
  have g50 : hG X 50 := gchk hX g49 ct_49
  have g51 : hG X 51 := gchk hX g50 ct_50
  have g52 : hG X 52 := gchk hX g51 ct_51
  have g53 : hG X 53 := gchk hX g52 ct_52
  have g54 : hG X 54 := gchk hX g53 ct_53
  have g55 : hG X 55 := gchk hX g54 ct_54
  have g56 : hG X 56 := gchk hX g55 ct_55
  have g57 : hG X 57 := gchk hX g56 ct_56
  have g58 : hG X 58 := gchk hX g57 ct_57
  have g59 : hG X 59 := gchk hX g58 ct_58
  have g60 : hG X 60 := gchk hX g59 ct_59
  exact g60
theorem gd_80 {X : aX} (hX : X 0 = some (8, zab)) (m62 : hG X 62 → dGood X cC62) (g60 : hG X 60) : hG X 80 := by
  have g61 : hG X 61 := gchk hX g60 ct_60
  have g62 : hG X 62 := gchk hX g61 ct_61
  have g63 : hG X 63 := gman g62 (show cCT[62]? = some cC62 from rfl) (m62 g62)
  have g64 : hG X 64 := gchk hX g63 ct_63
  have g65 : hG X 65 := gchk hX g64 ct_64
  have g66 : hG X 66 := gchk hX g65 ct_65
  have g67 : hG X 67 := gchk hX g66 ct_66
  have g68 : hG X 68 := gchk hX g67 ct_67
  have g69 : hG X 69 := gchk hX g68 ct_68
  have g70 : hG X 70 := gchk hX g69 ct_69
  have g71 : hG X 71 := gchk hX g70 ct_70
  have g72 : hG X 72 := gchk hX g71 ct_71
  have g73 : hG X 73 := gchk hX g72 ct_72
  have g74 : hG X 74 := gchk hX g73 ct_73
  have g75 : hG X 75 := gchk hX g74 ct_74
  have g76 : hG X 76 := gchk hX g75 ct_75
  have g77 : hG X 77 := gchk hX g76 ct_76
  have g78 : hG X 78 := gchk hX g77 ct_77
  have g79 : hG X 79 := gchk hX g78 ct_78
  have g80 : hG X 80 := gchk hX g79 ct_79
  exact g80
theorem gd_100 {X : aX} (hX : X 0 = some (8, zab)) (m80 : hG X 80 → dGood X cC80) (g80 : hG X 80) : hG X 100 := by
  have g81 : hG X 81 := gman g80 (show cCT[80]? = some cC80 from rfl) (m80 g80)
  have g82 : hG X 82 := gchk hX g81 ct_81
  have g83 : hG X 83 := gchk hX g82 ct_82
  have g84 : hG X 84 := gchk hX g83 ct_83
  have g85 : hG X 85 := gchk hX g84 ct_84
  have g86 : hG X 86 := gchk hX g85 ct_85
  have g87 : hG X 87 := gchk hX g86 ct_86
  have g88 : hG X 88 := gchk hX g87 ct_87
  have g89 : hG X 89 := gchk hX g88 ct_88
  have g90 : hG X 90 := gchk hX g89 ct_89
  have g91 : hG X 91 := gchk hX g90 ct_90
  have g92 : hG X 92 := gchk hX g91 ct_91
  have g93 : hG X 93 := gchk hX g92 ct_92
  have g94 : hG X 94 := gchk hX g93 ct_93
  have g95 : hG X 95 := gchk hX g94 ct_94
  have g96 : hG X 96 := gchk hX g95 ct_95
  have g97 : hG X 97 := gchk hX g96 ct_96
  have g98 : hG X 98 := gchk hX g97 ct_97
  have g99 : hG X 99 := gchk hX g98 ct_98
  have g100 : hG X 100 := gchk hX g99 ct_99
  exact g100
theorem gd_120 {X : aX} (hX : X 0 = some (8, zab)) (g100 : hG X 100) : hG X 120 := by
  have g101 : hG X 101 := gchk hX g100 ct_100
  have g102 : hG X 102 := gchk hX g101 ct_101
  have g103 : hG X 103 := gchk hX g102 ct_102
  have g104 : hG X 104 := gchk hX g103 ct_103
  have g105 : hG X 105 := gchk hX g104 ct_104
  have g106 : hG X 106 := gchk hX g105 ct_105
  have g107 : hG X 107 := gchk hX g106 ct_106
  have g108 : hG X 108 := gchk hX g107 ct_107
  have g109 : hG X 109 := gchk hX g108 ct_108
  have g110 : hG X 110 := gchk hX g109 ct_109
  have g111 : hG X 111 := gchk hX g110 ct_110
  have g112 : hG X 112 := gchk hX g111 ct_111
  have g113 : hG X 113 := gchk hX g112 ct_112
  have g114 : hG X 114 := gchk hX g113 ct_113
  have g115 : hG X 115 := gchk hX g114 ct_114
  have g116 : hG X 116 := gchk hX g115 ct_115
  have g117 : hG X 117 := gchk hX g116 ct_116
  have g118 : hG X 118 := gchk hX g117 ct_117
  have g119 : hG X 119 := gchk hX g118 ct_118
  have g120 : hG X 120 := gchk hX g119 ct_119
  exact g120
theorem gd_140 {X : aX} (hX : X 0 = some (8, zab)) (g120 : hG X 120) : hG X 140 := by
  have g121 : hG X 121 := gchk hX g120 ct_120
  have g122 : hG X 122 := gchk hX g121 ct_121
  have g123 : hG X 123 := gchk hX g122 ct_122
  have g124 : hG X 124 := gchk hX g123 ct_123
  have g125 : hG X 125 := gchk hX g124 ct_124
  have g126 : hG X 126 := gchk hX g125 ct_125
  have g127 : hG X 127 := gchk hX g126 ct_126
  have g128 : hG X 128 := gchk hX g127 ct_127
  have g129 : hG X 129 := gchk hX g128 ct_128
  have g130 : hG X 130 := gchk hX g129 ct_129
  have g131 : hG X 131 := gchk hX g130 ct_130
  have g132 : hG X 132 := gchk hX g131 ct_131
  have g133 : hG X 133 := gchk hX g132 ct_132
  have g134 : hG X 134 := gchk hX g133 ct_133
  have g135 : hG X 135 := gchk hX g134 ct_134
  have g136 : hG X 136 := gchk hX g135 ct_135
  have g137 : hG X 137 := gchk hX g136 ct_136
  have g138 : hG X 138 := gchk hX g137 ct_137
  have g139 : hG X 139 := gchk hX g138 ct_138
  have g140 : hG X 140 := gchk hX g139 ct_139
  exact g140
theorem gd_160 {X : aX} (hX : X 0 = some (8, zab)) (m144 : hG X 144 → dGood X cC144) (g140 : hG X 140) : hG X 160 := by
  have g141 : hG X 141 := gchk hX g140 ct_140
  have g142 : hG X 142 := gchk hX g141 ct_141
  have g143 : hG X 143 := gchk hX g142 ct_142
  have g144 : hG X 144 := gchk hX g143 ct_143
  have g145 : hG X 145 := gman g144 (show cCT[144]? = some cC144 from rfl) (m144 g144)
  have g146 : hG X 146 := gchk hX g145 ct_145
  have g147 : hG X 147 := gchk hX g146 ct_146
  have g148 : hG X 148 := gchk hX g147 ct_147
  have g149 : hG X 149 := gchk hX g148 ct_148
  have g150 : hG X 150 := gchk hX g149 ct_149
  have g151 : hG X 151 := gchk hX g150 ct_150
  have g152 : hG X 152 := gchk hX g151 ct_151
  have g153 : hG X 153 := gchk hX g152 ct_152
  have g154 : hG X 154 := gchk hX g153 ct_153
  have g155 : hG X 155 := gchk hX g154 ct_154
  have g156 : hG X 156 := gchk hX g155 ct_155
  have g157 : hG X 157 := gchk hX g156 ct_156
  have g158 : hG X 158 := gchk hX g157 ct_157
  have g159 : hG X 159 := gchk hX g158 ct_158
  have g160 : hG X 160 := gchk hX g159 ct_159
  exact g160
theorem hand_176 {X : aX} : dGood X cC176 := by
  intro M hM l h σ ρ rh I K L
  obtain ⟨hl, -, h2⟩ := K.1
  have : ∃ y, ρ[1]? = some y := ⟨_, List.getElem?_eq_getElem (show 1 < ρ.length by rw [hl]; decide)⟩
  obtain ⟨y, hy⟩ := this
  have := h2 1 y (1, 0) hy rfl
  dsimp only at this
  omega
theorem hand_177 {X : aX} : dGood X cC177 := by
  intro M hM l h σ ρ rh I K L
  obtain ⟨hl, -, h2⟩ := K.1
  have : ∃ y, ρ[1]? = some y := ⟨_, List.getElem?_eq_getElem (show 1 < ρ.length by rw [hl]; decide)⟩
  obtain ⟨y, hy⟩ := this
  have := h2 1 y (1, 0) hy rfl
  dsimp only at this
  omega
theorem gd_180 {X : aX} (hX : X 0 = some (8, zab)) (g160 : hG X 160) : hG X 180 := by
  have g161 : hG X 161 := gchk hX g160 ct_160
  have g162 : hG X 162 := gchk hX g161 ct_161
  have g163 : hG X 163 := gchk hX g162 ct_162
  have g164 : hG X 164 := gchk hX g163 ct_163
  have g165 : hG X 165 := gchk hX g164 ct_164
  have g166 : hG X 166 := gchk hX g165 ct_165
  have g167 : hG X 167 := gchk hX g166 ct_166
  have g168 : hG X 168 := gchk hX g167 ct_167
  have g169 : hG X 169 := gchk hX g168 ct_168
  have g170 : hG X 170 := gchk hX g169 ct_169
  have g171 : hG X 171 := gchk hX g170 ct_170
  have g172 : hG X 172 := gchk hX g171 ct_171
  have g173 : hG X 173 := gchk hX g172 ct_172
  have g174 : hG X 174 := gchk hX g173 ct_173
  have g175 : hG X 175 := gchk hX g174 ct_174
  have g176 : hG X 176 := gchk hX g175 ct_175
  have g177 : hG X 177 := gman g176 (show cCT[176]? = some cC176 from rfl) hand_176
  have g178 : hG X 178 := gman g177 (show cCT[177]? = some cC177 from rfl) hand_177
  have g179 : hG X 179 := gchk hX g178 ct_178
  have g180 : hG X 180 := gchk hX g179 ct_179
  exact g180
theorem gd_200 {X : aX} (hX : X 0 = some (8, zab)) (m184 : hG X 184 → dGood X cC184) (m194 : hG X 194 → dGood X cC194) (g180 : hG X 180) : hG X 200 := by
  have g181 : hG X 181 := gchk hX g180 ct_180
  have g182 : hG X 182 := gchk hX g181 ct_181
  have g183 : hG X 183 := gchk hX g182 ct_182
  have g184 : hG X 184 := gchk hX g183 ct_183
  have g185 : hG X 185 := gman g184 (show cCT[184]? = some cC184 from rfl) (m184 g184)
  have g186 : hG X 186 := gchk hX g185 ct_185
  have g187 : hG X 187 := gchk hX g186 ct_186
  have g188 : hG X 188 := gchk hX g187 ct_187
  have g189 : hG X 189 := gchk hX g188 ct_188
  have g190 : hG X 190 := gchk hX g189 ct_189
  have g191 : hG X 191 := gchk hX g190 ct_190
  have g192 : hG X 192 := gchk hX g191 ct_191
  have g193 : hG X 193 := gchk hX g192 ct_192
  have g194 : hG X 194 := gchk hX g193 ct_193
  have g195 : hG X 195 := gman g194 (show cCT[194]? = some cC194 from rfl) (m194 g194)
  have g196 : hG X 196 := gchk hX g195 ct_195
  have g197 : hG X 197 := gchk hX g196 ct_196
  have g198 : hG X 198 := gchk hX g197 ct_197
  have g199 : hG X 199 := gchk hX g198 ct_198
  have g200 : hG X 200 := gchk hX g199 ct_199
  exact g200
theorem gd_220 {X : aX} (hX : X 0 = some (8, zab)) (m206 : hG X 206 → dGood X cC206) (m217 : hG X 217 → dGood X cC217) (g200 : hG X 200) : hG X 220 := by
  have g201 : hG X 201 := gchk hX g200 ct_200
  have g202 : hG X 202 := gchk hX g201 ct_201
  have g203 : hG X 203 := gchk hX g202 ct_202
  have g204 : hG X 204 := gchk hX g203 ct_203
  have g205 : hG X 205 := gchk hX g204 ct_204
  have g206 : hG X 206 := gchk hX g205 ct_205
  have g207 : hG X 207 := gman g206 (show cCT[206]? = some cC206 from rfl) (m206 g206)
  have g208 : hG X 208 := gchk hX g207 ct_207
  have g209 : hG X 209 := gchk hX g208 ct_208
  have g210 : hG X 210 := gchk hX g209 ct_209
  have g211 : hG X 211 := gchk hX g210 ct_210
  have g212 : hG X 212 := gchk hX g211 ct_211
  have g213 : hG X 213 := gchk hX g212 ct_212
  have g214 : hG X 214 := gchk hX g213 ct_213
  have g215 : hG X 215 := gchk hX g214 ct_214
  have g216 : hG X 216 := gchk hX g215 ct_215
  have g217 : hG X 217 := gchk hX g216 ct_216
  have g218 : hG X 218 := gman g217 (show cCT[217]? = some cC217 from rfl) (m217 g217)
  have g219 : hG X 219 := gchk hX g218 ct_218
  have g220 : hG X 220 := gchk hX g219 ct_219
  exact g220
theorem gd_240 {X : aX} (hX : X 0 = some (8, zab)) (g220 : hG X 220) : hG X 240 := by
  have g221 : hG X 221 := gchk hX g220 ct_220
  have g222 : hG X 222 := gchk hX g221 ct_221
  have g223 : hG X 223 := gchk hX g222 ct_222
  have g224 : hG X 224 := gchk hX g223 ct_223
  have g225 : hG X 225 := gchk hX g224 ct_224
  have g226 : hG X 226 := gchk hX g225 ct_225
  have g227 : hG X 227 := gchk hX g226 ct_226
  have g228 : hG X 228 := gchk hX g227 ct_227
  have g229 : hG X 229 := gchk hX g228 ct_228
  have g230 : hG X 230 := gchk hX g229 ct_229
  have g231 : hG X 231 := gchk hX g230 ct_230
  have g232 : hG X 232 := gchk hX g231 ct_231
  have g233 : hG X 233 := gchk hX g232 ct_232
  have g234 : hG X 234 := gchk hX g233 ct_233
  have g235 : hG X 235 := gchk hX g234 ct_234
  have g236 : hG X 236 := gchk hX g235 ct_235
  have g237 : hG X 237 := gchk hX g236 ct_236
  have g238 : hG X 238 := gchk hX g237 ct_237
  have g239 : hG X 239 := gchk hX g238 ct_238
  have g240 : hG X 240 := gchk hX g239 ct_239
  exact g240
theorem gd_260 {X : aX} (hX : X 0 = some (8, zab)) (g240 : hG X 240) : hG X 260 := by
  have g241 : hG X 241 := gchk hX g240 ct_240
  have g242 : hG X 242 := gchk hX g241 ct_241
  have g243 : hG X 243 := gchk hX g242 ct_242
  have g244 : hG X 244 := gchk hX g243 ct_243
  have g245 : hG X 245 := gchk hX g244 ct_244
  have g246 : hG X 246 := gchk hX g245 ct_245
  have g247 : hG X 247 := gchk hX g246 ct_246
  have g248 : hG X 248 := gchk hX g247 ct_247
  have g249 : hG X 249 := gchk hX g248 ct_248
  have g250 : hG X 250 := gchk hX g249 ct_249
  have g251 : hG X 251 := gchk hX g250 ct_250
  have g252 : hG X 252 := gchk hX g251 ct_251
  have g253 : hG X 253 := gchk hX g252 ct_252
  have g254 : hG X 254 := gchk hX g253 ct_253
  have g255 : hG X 255 := gchk hX g254 ct_254
  have g256 : hG X 256 := gchk hX g255 ct_255
  have g257 : hG X 257 := gchk hX g256 ct_256
  have g258 : hG X 258 := gchk hX g257 ct_257
  have g259 : hG X 259 := gchk hX g258 ct_258
  have g260 : hG X 260 := gchk hX g259 ct_259
  exact g260
theorem gd_280 {X : aX} (hX : X 0 = some (8, zab)) (m274 : hG X 274 → dGood X cC274) (g260 : hG X 260) : hG X 280 := by
  have g261 : hG X 261 := gchk hX g260 ct_260
  have g262 : hG X 262 := gchk hX g261 ct_261
  have g263 : hG X 263 := gchk hX g262 ct_262
  have g264 : hG X 264 := gchk hX g263 ct_263
  have g265 : hG X 265 := gchk hX g264 ct_264
  have g266 : hG X 266 := gchk hX g265 ct_265
  have g267 : hG X 267 := gchk hX g266 ct_266
  have g268 : hG X 268 := gchk hX g267 ct_267
  have g269 : hG X 269 := gchk hX g268 ct_268
  have g270 : hG X 270 := gchk hX g269 ct_269
  have g271 : hG X 271 := gchk hX g270 ct_270
  have g272 : hG X 272 := gchk hX g271 ct_271
  have g273 : hG X 273 := gchk hX g272 ct_272
  have g274 : hG X 274 := gchk hX g273 ct_273
  have g275 : hG X 275 := gman g274 (show cCT[274]? = some cC274 from rfl) (m274 g274)
  have g276 : hG X 276 := gchk hX g275 ct_275
  have g277 : hG X 277 := gchk hX g276 ct_276
  have g278 : hG X 278 := gchk hX g277 ct_277
  have g279 : hG X 279 := gchk hX g278 ct_278
  have g280 : hG X 280 := gchk hX g279 ct_279
  exact g280
theorem gd_300 {X : aX} (hX : X 0 = some (8, zab)) (m280 : hG X 280 → dGood X cC280) (m281 : hG X 281 → dGood X cC281) (m284 : hG X 284 → dGood X cC284) (m291 : hG X 291 → dGood X cC291) (m293 : hG X 293 → dGood X cC293) (g280 : hG X 280) : hG X 300 := by
  have g281 : hG X 281 := gman g280 (show cCT[280]? = some cC280 from rfl) (m280 g280)
  have g282 : hG X 282 := gman g281 (show cCT[281]? = some cC281 from rfl) (m281 g281)
  have g283 : hG X 283 := gchk hX g282 ct_282
  have g284 : hG X 284 := gchk hX g283 ct_283
  have g285 : hG X 285 := gman g284 (show cCT[284]? = some cC284 from rfl) (m284 g284)
  have g286 : hG X 286 := gchk hX g285 ct_285
  have g287 : hG X 287 := gchk hX g286 ct_286
  have g288 : hG X 288 := gchk hX g287 ct_287
  have g289 : hG X 289 := gchk hX g288 ct_288
  have g290 : hG X 290 := gchk hX g289 ct_289
  have g291 : hG X 291 := gchk hX g290 ct_290
  have g292 : hG X 292 := gman g291 (show cCT[291]? = some cC291 from rfl) (m291 g291)
  have g293 : hG X 293 := gchk hX g292 ct_292
  have g294 : hG X 294 := gman g293 (show cCT[293]? = some cC293 from rfl) (m293 g293)
  have g295 : hG X 295 := gchk hX g294 ct_294
  have g296 : hG X 296 := gchk hX g295 ct_295
  have g297 : hG X 297 := gchk hX g296 ct_296
  have g298 : hG X 298 := gchk hX g297 ct_297
  have g299 : hG X 299 := gchk hX g298 ct_298
  have g300 : hG X 300 := gchk hX g299 ct_299
  exact g300
theorem gd_302 {X : aX} (hX : X 0 = some (8, zab)) (g300 : hG X 300) : hG X 302 := by
  have g301 : hG X 301 := gchk hX g300 ct_300
  have g302 : hG X 302 := gchk hX g301 ct_301
  exact g302
